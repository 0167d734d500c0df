/-! the worlds: lists of cells (printed by wip/gen/worlds.py) -/
abbrev kX0 : Nat := 0
abbrev kX1 : Nat := 1
abbrev kX2 : Nat := 2
abbrev kX3 : Nat := 3
abbrev kX4 : Nat := 4
abbrev tyL (cI cII cJ cJJ : ClassId) : List (ClassId × FieldType) := [(cI, .int), (cII, .array .int), (cJ, .long), (cJJ, .array .long)]
def updR {α : Type} (E : Nat → Nat → α) (j : Nat) (r : Nat → α) : Nat → Nat → α := fun i => if i = j then r else E i
abbrev wA (cI : ClassId) (a : Nat) (F : Nat → Int32) : va_W := [(a, .inl (cI, 6, .inl F))]
abbrev wE  : va_W := []
abbrev wM (cI : ClassId) (cII : ClassId) (mo : Nat) (eo : Nat) (dg : Nat) (to : Nat) (er : Nat → Nat) (n : Nat) (E : Nat → Nat → Int32) (DG : Nat → Int32) : va_W := [(mo, .inr (kX2, [.int (nI n), .ref eo, .ref dg, .ref to])), (eo, .inl (cII, 7, .inr (.inr (.inr (.inr (rowF 7 er)))))), (er 0, .inl (cI, 7, .inl (E 0))), (er 1, .inl (cI, 7, .inl (E 1))), (er 2, .inl (cI, 7, .inl (E 2))), (er 3, .inl (cI, 7, .inl (E 3))), (er 4, .inl (cI, 7, .inl (E 4))), (er 5, .inl (cI, 7, .inl (E 5))), (er 6, .inl (cI, 7, .inl (E 6))), (dg, .inl (cI, 7, .inl DG))]
theorem row_wM_er {cI : ClassId} {cII : ClassId} {mo : Nat} {eo : Nat} {dg : Nat} {to : Nat} {er : Nat → Nat} {n : Nat} {E : Nat → Nat → Int32} {DG : Nat → Int32} {j : Nat} (hj : j < 7) : (wM cI cII mo eo dg to er n E DG)[2 + j]? = some (er j, .inl (cI, 7, .inl (E j))) := by
  match j, hj with
  | 0, _ => rfl
  | 1, _ => rfl
  | 2, _ => rfl
  | 3, _ => rfl
  | 4, _ => rfl
  | 5, _ => rfl
  | 6, _ => rfl
theorem set_wM_er {cI : ClassId} {cII : ClassId} {mo : Nat} {eo : Nat} {dg : Nat} {to : Nat} {er : Nat → Nat} {n : Nat} {E : Nat → Nat → Int32} {DG : Nat → Int32} {F : Nat → Int32} {j : Nat} (hj : j < 7) : (wM cI cII mo eo dg to er n E DG).set (2 + j) (er j, .inl (cI, 7, .inl F)) = wM cI cII mo eo dg to er n (updR E j F) DG := by
  match j, hj with
  | 0, _ => rfl
  | 1, _ => rfl
  | 2, _ => rfl
  | 3, _ => rfl
  | 4, _ => rfl
  | 5, _ => rfl
  | 6, _ => rfl
abbrev wMT (cJ : ClassId) (cJJ : ClassId) (cI : ClassId) (cII : ClassId) (mo : Nat) (eo : Nat) (dg : Nat) (to : Nat) (er : Nat → Nat) (n : Nat) (E : Nat → Nat → Int32) (DG : Nat → Int32) (tr : Nat → Nat) (T : Nat → Nat → Int64) : va_W := [(mo, .inr (kX2, [.int (nI n), .ref eo, .ref dg, .ref to])), (eo, .inl (cII, 7, .inr (.inr (.inr (.inr (rowF 7 er)))))), (er 0, .inl (cI, 7, .inl (E 0))), (er 1, .inl (cI, 7, .inl (E 1))), (er 2, .inl (cI, 7, .inl (E 2))), (er 3, .inl (cI, 7, .inl (E 3))), (er 4, .inl (cI, 7, .inl (E 4))), (er 5, .inl (cI, 7, .inl (E 5))), (er 6, .inl (cI, 7, .inl (E 6))), (dg, .inl (cI, 7, .inl DG)), (to, .inl (cJJ, 6, .inr (.inr (.inr (.inr (rowF 6 tr)))))), (tr 0, .inl (cJ, 6, .inr (.inl (T 0)))), (tr 1, .inl (cJ, 6, .inr (.inl (T 1)))), (tr 2, .inl (cJ, 6, .inr (.inl (T 2)))), (tr 3, .inl (cJ, 6, .inr (.inl (T 3)))), (tr 4, .inl (cJ, 6, .inr (.inl (T 4)))), (tr 5, .inl (cJ, 6, .inr (.inl (T 5))))]
theorem row_wMT_er {cJ : ClassId} {cJJ : ClassId} {cI : ClassId} {cII : ClassId} {mo : Nat} {eo : Nat} {dg : Nat} {to : Nat} {er : Nat → Nat} {n : Nat} {E : Nat → Nat → Int32} {DG : Nat → Int32} {tr : Nat → Nat} {T : Nat → Nat → Int64} {j : Nat} (hj : j < 7) : (wMT cJ cJJ cI cII mo eo dg to er n E DG tr T)[2 + j]? = some (er j, .inl (cI, 7, .inl (E j))) := by
  match j, hj with
  | 0, _ => rfl
  | 1, _ => rfl
  | 2, _ => rfl
  | 3, _ => rfl
  | 4, _ => rfl
  | 5, _ => rfl
  | 6, _ => rfl
theorem set_wMT_er {cJ : ClassId} {cJJ : ClassId} {cI : ClassId} {cII : ClassId} {mo : Nat} {eo : Nat} {dg : Nat} {to : Nat} {er : Nat → Nat} {n : Nat} {E : Nat → Nat → Int32} {DG : Nat → Int32} {tr : Nat → Nat} {T : Nat → Nat → Int64} {F : Nat → Int32} {j : Nat} (hj : j < 7) : (wMT cJ cJJ cI cII mo eo dg to er n E DG tr T).set (2 + j) (er j, .inl (cI, 7, .inl F)) = wMT cJ cJJ cI cII mo eo dg to er n (updR E j F) DG tr T := by
  match j, hj with
  | 0, _ => rfl
  | 1, _ => rfl
  | 2, _ => rfl
  | 3, _ => rfl
  | 4, _ => rfl
  | 5, _ => rfl
  | 6, _ => rfl
theorem row_wMT_tr {cJ : ClassId} {cJJ : ClassId} {cI : ClassId} {cII : ClassId} {mo : Nat} {eo : Nat} {dg : Nat} {to : Nat} {er : Nat → Nat} {n : Nat} {E : Nat → Nat → Int32} {DG : Nat → Int32} {tr : Nat → Nat} {T : Nat → Nat → Int64} {j : Nat} (hj : j < 6) : (wMT cJ cJJ cI cII mo eo dg to er n E DG tr T)[11 + j]? = some (tr j, .inl (cJ, 6, .inr (.inl (T j)))) := by
  match j, hj with
  | 0, _ => rfl
  | 1, _ => rfl
  | 2, _ => rfl
  | 3, _ => rfl
  | 4, _ => rfl
  | 5, _ => rfl
theorem set_wMT_tr {cJ : ClassId} {cJJ : ClassId} {cI : ClassId} {cII : ClassId} {mo : Nat} {eo : Nat} {dg : Nat} {to : Nat} {er : Nat → Nat} {n : Nat} {E : Nat → Nat → Int32} {DG : Nat → Int32} {tr : Nat → Nat} {T : Nat → Nat → Int64} {F : Nat → Int64} {j : Nat} (hj : j < 6) : (wMT cJ cJJ cI cII mo eo dg to er n E DG tr T).set (11 + j) (tr j, .inl (cJ, 6, .inr (.inl F))) = wMT cJ cJJ cI cII mo eo dg to er n E DG tr (updR T j F) := by
  match j, hj with
  | 0, _ => rfl
  | 1, _ => rfl
  | 2, _ => rfl
  | 3, _ => rfl
  | 4, _ => rfl
  | 5, _ => rfl
abbrev wHM (h : Nat) (g : Nat) (t : Nat) (G : Nat → Int32) (T : Nat → Int32) (cI : ClassId) (cII : ClassId) (mo : Nat) (eo : Nat) (dg : Nat) (to : Nat) (er : Nat → Nat) (n : Nat) (E : Nat → Nat → Int32) (DG : Nat → Int32) : va_W := [(h, .inr (kX0, [.ref g, .ref t, .ref mo])), (g, .inl (cI, 6, .inl G)), (t, .inl (cI, 6, .inl T)), (mo, .inr (kX2, [.int (nI n), .ref eo, .ref dg, .ref to])), (eo, .inl (cII, 7, .inr (.inr (.inr (.inr (rowF 7 er)))))), (er 0, .inl (cI, 7, .inl (E 0))), (er 1, .inl (cI, 7, .inl (E 1))), (er 2, .inl (cI, 7, .inl (E 2))), (er 3, .inl (cI, 7, .inl (E 3))), (er 4, .inl (cI, 7, .inl (E 4))), (er 5, .inl (cI, 7, .inl (E 5))), (er 6, .inl (cI, 7, .inl (E 6))), (dg, .inl (cI, 7, .inl DG))]
theorem row_wHM_er {h : Nat} {g : Nat} {t : Nat} {G : Nat → Int32} {T : Nat → Int32} {cI : ClassId} {cII : ClassId} {mo : Nat} {eo : Nat} {dg : Nat} {to : Nat} {er : Nat → Nat} {n : Nat} {E : Nat → Nat → Int32} {DG : Nat → Int32} {j : Nat} (hj : j < 7) : (wHM h g t G T cI cII mo eo dg to er n E DG)[5 + j]? = some (er j, .inl (cI, 7, .inl (E j))) := by
  match j, hj with
  | 0, _ => rfl
  | 1, _ => rfl
  | 2, _ => rfl
  | 3, _ => rfl
  | 4, _ => rfl
  | 5, _ => rfl
  | 6, _ => rfl
theorem set_wHM_er {h : Nat} {g : Nat} {t : Nat} {G : Nat → Int32} {T : Nat → Int32} {cI : ClassId} {cII : ClassId} {mo : Nat} {eo : Nat} {dg : Nat} {to : Nat} {er : Nat → Nat} {n : Nat} {E : Nat → Nat → Int32} {DG : Nat → Int32} {F : Nat → Int32} {j : Nat} (hj : j < 7) : (wHM h g t G T cI cII mo eo dg to er n E DG).set (5 + j) (er j, .inl (cI, 7, .inl F)) = wHM h g t G T cI cII mo eo dg to er n (updR E j F) DG := by
  match j, hj with
  | 0, _ => rfl
  | 1, _ => rfl
  | 2, _ => rfl
  | 3, _ => rfl
  | 4, _ => rfl
  | 5, _ => rfl
  | 6, _ => rfl
abbrev wHMr (h : Nat) (g : Nat) (t : Nat) (G : Nat → Int32) (T : Nat → Int32) (ro : Nat) (RO : Nat → Int32) (cI : ClassId) (cII : ClassId) (mo : Nat) (eo : Nat) (dg : Nat) (to : Nat) (er : Nat → Nat) (n : Nat) (E : Nat → Nat → Int32) (DG : Nat → Int32) : va_W := [(h, .inr (kX0, [.ref g, .ref t, .ref mo])), (g, .inl (cI, 6, .inl G)), (t, .inl (cI, 6, .inl T)), (ro, .inl (cI, 6, .inl RO)), (mo, .inr (kX2, [.int (nI n), .ref eo, .ref dg, .ref to])), (eo, .inl (cII, 7, .inr (.inr (.inr (.inr (rowF 7 er)))))), (er 0, .inl (cI, 7, .inl (E 0))), (er 1, .inl (cI, 7, .inl (E 1))), (er 2, .inl (cI, 7, .inl (E 2))), (er 3, .inl (cI, 7, .inl (E 3))), (er 4, .inl (cI, 7, .inl (E 4))), (er 5, .inl (cI, 7, .inl (E 5))), (er 6, .inl (cI, 7, .inl (E 6))), (dg, .inl (cI, 7, .inl DG))]
theorem row_wHMr_er {h : Nat} {g : Nat} {t : Nat} {G : Nat → Int32} {T : Nat → Int32} {ro : Nat} {RO : Nat → Int32} {cI : ClassId} {cII : ClassId} {mo : Nat} {eo : Nat} {dg : Nat} {to : Nat} {er : Nat → Nat} {n : Nat} {E : Nat → Nat → Int32} {DG : Nat → Int32} {j : Nat} (hj : j < 7) : (wHMr h g t G T ro RO cI cII mo eo dg to er n E DG)[6 + j]? = some (er j, .inl (cI, 7, .inl (E j))) := by
  match j, hj with
  | 0, _ => rfl
  | 1, _ => rfl
  | 2, _ => rfl
  | 3, _ => rfl
  | 4, _ => rfl
  | 5, _ => rfl
  | 6, _ => rfl
theorem set_wHMr_er {h : Nat} {g : Nat} {t : Nat} {G : Nat → Int32} {T : Nat → Int32} {ro : Nat} {RO : Nat → Int32} {cI : ClassId} {cII : ClassId} {mo : Nat} {eo : Nat} {dg : Nat} {to : Nat} {er : Nat → Nat} {n : Nat} {E : Nat → Nat → Int32} {DG : Nat → Int32} {F : Nat → Int32} {j : Nat} (hj : j < 7) : (wHMr h g t G T ro RO cI cII mo eo dg to er n E DG).set (6 + j) (er j, .inl (cI, 7, .inl F)) = wHMr h g t G T ro RO cI cII mo eo dg to er n (updR E j F) DG := by
  match j, hj with
  | 0, _ => rfl
  | 1, _ => rfl
  | 2, _ => rfl
  | 3, _ => rfl
  | 4, _ => rfl
  | 5, _ => rfl
  | 6, _ => rfl
abbrev wRM (rt : Nat) (pl : Nat) (P : Nat → Int32) (st : Int32) (cI : ClassId) (cII : ClassId) (mo : Nat) (eo : Nat) (dg : Nat) (to : Nat) (er : Nat → Nat) (n : Nat) (E : Nat → Nat → Int32) (DG : Nat → Int32) : va_W := [(rt, .inr (kX3, [.ref pl, .int st, .ref mo])), (pl, .inl (cI, 6, .inl P)), (mo, .inr (kX2, [.int (nI n), .ref eo, .ref dg, .ref to])), (eo, .inl (cII, 7, .inr (.inr (.inr (.inr (rowF 7 er)))))), (er 0, .inl (cI, 7, .inl (E 0))), (er 1, .inl (cI, 7, .inl (E 1))), (er 2, .inl (cI, 7, .inl (E 2))), (er 3, .inl (cI, 7, .inl (E 3))), (er 4, .inl (cI, 7, .inl (E 4))), (er 5, .inl (cI, 7, .inl (E 5))), (er 6, .inl (cI, 7, .inl (E 6))), (dg, .inl (cI, 7, .inl DG))]
theorem row_wRM_er {rt : Nat} {pl : Nat} {P : Nat → Int32} {st : Int32} {cI : ClassId} {cII : ClassId} {mo : Nat} {eo : Nat} {dg : Nat} {to : Nat} {er : Nat → Nat} {n : Nat} {E : Nat → Nat → Int32} {DG : Nat → Int32} {j : Nat} (hj : j < 7) : (wRM rt pl P st cI cII mo eo dg to er n E DG)[4 + j]? = some (er j, .inl (cI, 7, .inl (E j))) := by
  match j, hj with
  | 0, _ => rfl
  | 1, _ => rfl
  | 2, _ => rfl
  | 3, _ => rfl
  | 4, _ => rfl
  | 5, _ => rfl
  | 6, _ => rfl
theorem set_wRM_er {rt : Nat} {pl : Nat} {P : Nat → Int32} {st : Int32} {cI : ClassId} {cII : ClassId} {mo : Nat} {eo : Nat} {dg : Nat} {to : Nat} {er : Nat → Nat} {n : Nat} {E : Nat → Nat → Int32} {DG : Nat → Int32} {F : Nat → Int32} {j : Nat} (hj : j < 7) : (wRM rt pl P st cI cII mo eo dg to er n E DG).set (4 + j) (er j, .inl (cI, 7, .inl F)) = wRM rt pl P st cI cII mo eo dg to er n (updR E j F) DG := by
  match j, hj with
  | 0, _ => rfl
  | 1, _ => rfl
  | 2, _ => rfl
  | 3, _ => rfl
  | 4, _ => rfl
  | 5, _ => rfl
  | 6, _ => rfl
abbrev wYM (my : Nat) (co : Nat) (C : Nat → Int32) (la : Nat) (lag : Nat) (lat : Nat) (LG : Nat → Int32) (LT : Nat → Int32) (po : Nat) (pog : Nat) (pot : Nat) (OG : Nat → Int32) (OT : Nat → Int32) (cI : ClassId) (cII : ClassId) (mo : Nat) (eo : Nat) (dg : Nat) (to : Nat) (er : Nat → Nat) (n : Nat) (E : Nat → Nat → Int32) (DG : Nat → Int32) : va_W := [(my, .inr (kX1, [.ref co, .ref mo, .ref la, .ref po])), (co, .inl (cI, 7, .inl C)), (la, .inr (kX0, [.ref lag, .ref lat, .ref mo])), (lag, .inl (cI, 6, .inl LG)), (lat, .inl (cI, 6, .inl LT)), (po, .inr (kX0, [.ref pog, .ref pot, .ref mo])), (pog, .inl (cI, 6, .inl OG)), (pot, .inl (cI, 6, .inl OT)), (mo, .inr (kX2, [.int (nI n), .ref eo, .ref dg, .ref to])), (eo, .inl (cII, 7, .inr (.inr (.inr (.inr (rowF 7 er)))))), (er 0, .inl (cI, 7, .inl (E 0))), (er 1, .inl (cI, 7, .inl (E 1))), (er 2, .inl (cI, 7, .inl (E 2))), (er 3, .inl (cI, 7, .inl (E 3))), (er 4, .inl (cI, 7, .inl (E 4))), (er 5, .inl (cI, 7, .inl (E 5))), (er 6, .inl (cI, 7, .inl (E 6))), (dg, .inl (cI, 7, .inl DG))]
theorem row_wYM_er {my : Nat} {co : Nat} {C : Nat → Int32} {la : Nat} {lag : Nat} {lat : Nat} {LG : Nat → Int32} {LT : Nat → Int32} {po : Nat} {pog : Nat} {pot : Nat} {OG : Nat → Int32} {OT : Nat → Int32} {cI : ClassId} {cII : ClassId} {mo : Nat} {eo : Nat} {dg : Nat} {to : Nat} {er : Nat → Nat} {n : Nat} {E : Nat → Nat → Int32} {DG : Nat → Int32} {j : Nat} (hj : j < 7) : (wYM my co C la lag lat LG LT po pog pot OG OT cI cII mo eo dg to er n E DG)[10 + j]? = some (er j, .inl (cI, 7, .inl (E j))) := by
  match j, hj with
  | 0, _ => rfl
  | 1, _ => rfl
  | 2, _ => rfl
  | 3, _ => rfl
  | 4, _ => rfl
  | 5, _ => rfl
  | 6, _ => rfl
theorem set_wYM_er {my : Nat} {co : Nat} {C : Nat → Int32} {la : Nat} {lag : Nat} {lat : Nat} {LG : Nat → Int32} {LT : Nat → Int32} {po : Nat} {pog : Nat} {pot : Nat} {OG : Nat → Int32} {OT : Nat → Int32} {cI : ClassId} {cII : ClassId} {mo : Nat} {eo : Nat} {dg : Nat} {to : Nat} {er : Nat → Nat} {n : Nat} {E : Nat → Nat → Int32} {DG : Nat → Int32} {F : Nat → Int32} {j : Nat} (hj : j < 7) : (wYM my co C la lag lat LG LT po pog pot OG OT cI cII mo eo dg to er n E DG).set (10 + j) (er j, .inl (cI, 7, .inl F)) = wYM my co C la lag lat LG LT po pog pot OG OT cI cII mo eo dg to er n (updR E j F) DG := by
  match j, hj with
  | 0, _ => rfl
  | 1, _ => rfl
  | 2, _ => rfl
  | 3, _ => rfl
  | 4, _ => rfl
  | 5, _ => rfl
  | 6, _ => rfl
abbrev wYc (my : Nat) (co : Nat) (C : Nat → Int32) (la : Nat) (po : Nat) (cI : ClassId) (cII : ClassId) (mo : Nat) (eo : Nat) (dg : Nat) (to : Nat) (er : Nat → Nat) (n : Nat) (E : Nat → Nat → Int32) (DG : Nat → Int32) : va_W := [(my, .inr (kX1, [.ref co, .ref mo, .ref la, .ref po])), (co, .inl (cI, 7, .inl C)), (mo, .inr (kX2, [.int (nI n), .ref eo, .ref dg, .ref to])), (eo, .inl (cII, 7, .inr (.inr (.inr (.inr (rowF 7 er)))))), (er 0, .inl (cI, 7, .inl (E 0))), (er 1, .inl (cI, 7, .inl (E 1))), (er 2, .inl (cI, 7, .inl (E 2))), (er 3, .inl (cI, 7, .inl (E 3))), (er 4, .inl (cI, 7, .inl (E 4))), (er 5, .inl (cI, 7, .inl (E 5))), (er 6, .inl (cI, 7, .inl (E 6))), (dg, .inl (cI, 7, .inl DG))]
theorem row_wYc_er {my : Nat} {co : Nat} {C : Nat → Int32} {la : Nat} {po : Nat} {cI : ClassId} {cII : ClassId} {mo : Nat} {eo : Nat} {dg : Nat} {to : Nat} {er : Nat → Nat} {n : Nat} {E : Nat → Nat → Int32} {DG : Nat → Int32} {j : Nat} (hj : j < 7) : (wYc my co C la po cI cII mo eo dg to er n E DG)[4 + j]? = some (er j, .inl (cI, 7, .inl (E j))) := by
  match j, hj with
  | 0, _ => rfl
  | 1, _ => rfl
  | 2, _ => rfl
  | 3, _ => rfl
  | 4, _ => rfl
  | 5, _ => rfl
  | 6, _ => rfl
theorem set_wYc_er {my : Nat} {co : Nat} {C : Nat → Int32} {la : Nat} {po : Nat} {cI : ClassId} {cII : ClassId} {mo : Nat} {eo : Nat} {dg : Nat} {to : Nat} {er : Nat → Nat} {n : Nat} {E : Nat → Nat → Int32} {DG : Nat → Int32} {F : Nat → Int32} {j : Nat} (hj : j < 7) : (wYc my co C la po cI cII mo eo dg to er n E DG).set (4 + j) (er j, .inl (cI, 7, .inl F)) = wYc my co C la po cI cII mo eo dg to er n (updR E j F) DG := by
  match j, hj with
  | 0, _ => rfl
  | 1, _ => rfl
  | 2, _ => rfl
  | 3, _ => rfl
  | 4, _ => rfl
  | 5, _ => rfl
  | 6, _ => rfl
abbrev wYh (my : Nat) (co : Nat) (la : Nat) (po : Nat) (h : Nat) (g : Nat) (t : Nat) (G : Nat → Int32) (T : Nat → Int32) (cI : ClassId) (cII : ClassId) (mo : Nat) (eo : Nat) (dg : Nat) (to : Nat) (er : Nat → Nat) (n : Nat) (E : Nat → Nat → Int32) (DG : Nat → Int32) : va_W := [(my, .inr (kX1, [.ref co, .ref mo, .ref la, .ref po])), (h, .inr (kX0, [.ref g, .ref t, .ref mo])), (g, .inl (cI, 6, .inl G)), (t, .inl (cI, 6, .inl T)), (mo, .inr (kX2, [.int (nI n), .ref eo, .ref dg, .ref to])), (eo, .inl (cII, 7, .inr (.inr (.inr (.inr (rowF 7 er)))))), (er 0, .inl (cI, 7, .inl (E 0))), (er 1, .inl (cI, 7, .inl (E 1))), (er 2, .inl (cI, 7, .inl (E 2))), (er 3, .inl (cI, 7, .inl (E 3))), (er 4, .inl (cI, 7, .inl (E 4))), (er 5, .inl (cI, 7, .inl (E 5))), (er 6, .inl (cI, 7, .inl (E 6))), (dg, .inl (cI, 7, .inl DG))]
theorem row_wYh_er {my : Nat} {co : Nat} {la : Nat} {po : Nat} {h : Nat} {g : Nat} {t : Nat} {G : Nat → Int32} {T : Nat → Int32} {cI : ClassId} {cII : ClassId} {mo : Nat} {eo : Nat} {dg : Nat} {to : Nat} {er : Nat → Nat} {n : Nat} {E : Nat → Nat → Int32} {DG : Nat → Int32} {j : Nat} (hj : j < 7) : (wYh my co la po h g t G T cI cII mo eo dg to er n E DG)[6 + j]? = some (er j, .inl (cI, 7, .inl (E j))) := by
  match j, hj with
  | 0, _ => rfl
  | 1, _ => rfl
  | 2, _ => rfl
  | 3, _ => rfl
  | 4, _ => rfl
  | 5, _ => rfl
  | 6, _ => rfl
theorem set_wYh_er {my : Nat} {co : Nat} {la : Nat} {po : Nat} {h : Nat} {g : Nat} {t : Nat} {G : Nat → Int32} {T : Nat → Int32} {cI : ClassId} {cII : ClassId} {mo : Nat} {eo : Nat} {dg : Nat} {to : Nat} {er : Nat → Nat} {n : Nat} {E : Nat → Nat → Int32} {DG : Nat → Int32} {F : Nat → Int32} {j : Nat} (hj : j < 7) : (wYh my co la po h g t G T cI cII mo eo dg to er n E DG).set (6 + j) (er j, .inl (cI, 7, .inl F)) = wYh my co la po h g t G T cI cII mo eo dg to er n (updR E j F) DG := by
  match j, hj with
  | 0, _ => rfl
  | 1, _ => rfl
  | 2, _ => rfl
  | 3, _ => rfl
  | 4, _ => rfl
  | 5, _ => rfl
  | 6, _ => rfl
abbrev wTop (tp : Nat) (ly : Nat) (lyg : Nat) (lyt : Nat) (LYG : Nat → Int32) (LYT : Nat → Int32) (tl : Nat) (tlg : Nat) (tlt : Nat) (TLG : Nat → Int32) (TLT : Nat → Int32) (ne : Nat) (neg : Nat) (net : Nat) (NEG : Nat → Int32) (NET : Nat → Int32) (su : Nat) (sug : Nat) (sut : Nat) (SUG : Nat → Int32) (SUT : Nat → Int32) (kp : Nat) (kr : Nat → Nat) (KH : Nat → Nat → Int32) (km : Nat) (sw : Int32) (tps : Int32) (rt : Nat) (pl : Nat) (P : Nat → Int32) (st : Int32) (my : Nat) (co : Nat) (C : Nat → Int32) (la : Nat) (lag : Nat) (lat : Nat) (LG : Nat → Int32) (LT : Nat → Int32) (po : Nat) (pog : Nat) (pot : Nat) (OG : Nat → Int32) (OT : Nat → Int32) (cJ : ClassId) (cJJ : ClassId) (cI : ClassId) (cII : ClassId) (mo : Nat) (eo : Nat) (dg : Nat) (to : Nat) (er : Nat → Nat) (n : Nat) (E : Nat → Nat → Int32) (DG : Nat → Int32) (tr : Nat → Nat) (T : Nat → Nat → Int64) : va_W := [(tp, .inr (kX4, [.ref mo, .ref ly, .ref tl, .ref ne, .ref su, .ref rt, .ref my, .ref kp, .int (nI km), .int sw, .int tps])), (ly, .inr (kX0, [.ref lyg, .ref lyt, .ref mo])), (lyg, .inl (cI, 6, .inl LYG)), (lyt, .inl (cI, 6, .inl LYT)), (tl, .inr (kX0, [.ref tlg, .ref tlt, .ref mo])), (tlg, .inl (cI, 6, .inl TLG)), (tlt, .inl (cI, 6, .inl TLT)), (ne, .inr (kX0, [.ref neg, .ref net, .ref mo])), (neg, .inl (cI, 6, .inl NEG)), (net, .inl (cI, 6, .inl NET)), (su, .inr (kX0, [.ref sug, .ref sut, .ref mo])), (sug, .inl (cI, 6, .inl SUG)), (sut, .inl (cI, 6, .inl SUT)), (kp, .inl (cII, 4, .inr (.inr (.inr (.inr (rowF 4 kr)))))), (kr 0, .inl (cI, 6, .inl (KH 0))), (kr 1, .inl (cI, 6, .inl (KH 1))), (kr 2, .inl (cI, 6, .inl (KH 2))), (kr 3, .inl (cI, 6, .inl (KH 3))), (rt, .inr (kX3, [.ref pl, .int st, .ref mo])), (pl, .inl (cI, 6, .inl P)), (my, .inr (kX1, [.ref co, .ref mo, .ref la, .ref po])), (co, .inl (cI, 7, .inl C)), (la, .inr (kX0, [.ref lag, .ref lat, .ref mo])), (lag, .inl (cI, 6, .inl LG)), (lat, .inl (cI, 6, .inl LT)), (po, .inr (kX0, [.ref pog, .ref pot, .ref mo])), (pog, .inl (cI, 6, .inl OG)), (pot, .inl (cI, 6, .inl OT)), (mo, .inr (kX2, [.int (nI n), .ref eo, .ref dg, .ref to])), (eo, .inl (cII, 7, .inr (.inr (.inr (.inr (rowF 7 er)))))), (er 0, .inl (cI, 7, .inl (E 0))), (er 1, .inl (cI, 7, .inl (E 1))), (er 2, .inl (cI, 7, .inl (E 2))), (er 3, .inl (cI, 7, .inl (E 3))), (er 4, .inl (cI, 7, .inl (E 4))), (er 5, .inl (cI, 7, .inl (E 5))), (er 6, .inl (cI, 7, .inl (E 6))), (dg, .inl (cI, 7, .inl DG)), (to, .inl (cJJ, 6, .inr (.inr (.inr (.inr (rowF 6 tr)))))), (tr 0, .inl (cJ, 6, .inr (.inl (T 0)))), (tr 1, .inl (cJ, 6, .inr (.inl (T 1)))), (tr 2, .inl (cJ, 6, .inr (.inl (T 2)))), (tr 3, .inl (cJ, 6, .inr (.inl (T 3)))), (tr 4, .inl (cJ, 6, .inr (.inl (T 4)))), (tr 5, .inl (cJ, 6, .inr (.inl (T 5))))]
theorem row_wTop_kr {tp : Nat} {ly : Nat} {lyg : Nat} {lyt : Nat} {LYG : Nat → Int32} {LYT : Nat → Int32} {tl : Nat} {tlg : Nat} {tlt : Nat} {TLG : Nat → Int32} {TLT : Nat → Int32} {ne : Nat} {neg : Nat} {net : Nat} {NEG : Nat → Int32} {NET : Nat → Int32} {su : Nat} {sug : Nat} {sut : Nat} {SUG : Nat → Int32} {SUT : Nat → Int32} {kp : Nat} {kr : Nat → Nat} {KH : Nat → Nat → Int32} {km : Nat} {sw : Int32} {tps : Int32} {rt : Nat} {pl : Nat} {P : Nat → Int32} {st : Int32} {my : Nat} {co : Nat} {C : Nat → Int32} {la : Nat} {lag : Nat} {lat : Nat} {LG : Nat → Int32} {LT : Nat → Int32} {po : Nat} {pog : Nat} {pot : Nat} {OG : Nat → Int32} {OT : Nat → Int32} {cJ : ClassId} {cJJ : ClassId} {cI : ClassId} {cII : ClassId} {mo : Nat} {eo : Nat} {dg : Nat} {to : Nat} {er : Nat → Nat} {n : Nat} {E : Nat → Nat → Int32} {DG : Nat → Int32} {tr : Nat → Nat} {T : Nat → Nat → Int64} {j : Nat} (hj : j < 4) : (wTop tp ly lyg lyt LYG LYT tl tlg tlt TLG TLT ne neg net NEG NET su sug sut SUG SUT kp kr KH km sw tps rt pl P st my co C la lag lat LG LT po pog pot OG OT cJ cJJ cI cII mo eo dg to er n E DG tr T)[14 + j]? = some (kr j, .inl (cI, 6, .inl (KH j))) := by
  match j, hj with
  | 0, _ => rfl
  | 1, _ => rfl
  | 2, _ => rfl
  | 3, _ => rfl
theorem set_wTop_kr {tp : Nat} {ly : Nat} {lyg : Nat} {lyt : Nat} {LYG : Nat → Int32} {LYT : Nat → Int32} {tl : Nat} {tlg : Nat} {tlt : Nat} {TLG : Nat → Int32} {TLT : Nat → Int32} {ne : Nat} {neg : Nat} {net : Nat} {NEG : Nat → Int32} {NET : Nat → Int32} {su : Nat} {sug : Nat} {sut : Nat} {SUG : Nat → Int32} {SUT : Nat → Int32} {kp : Nat} {kr : Nat → Nat} {KH : Nat → Nat → Int32} {km : Nat} {sw : Int32} {tps : Int32} {rt : Nat} {pl : Nat} {P : Nat → Int32} {st : Int32} {my : Nat} {co : Nat} {C : Nat → Int32} {la : Nat} {lag : Nat} {lat : Nat} {LG : Nat → Int32} {LT : Nat → Int32} {po : Nat} {pog : Nat} {pot : Nat} {OG : Nat → Int32} {OT : Nat → Int32} {cJ : ClassId} {cJJ : ClassId} {cI : ClassId} {cII : ClassId} {mo : Nat} {eo : Nat} {dg : Nat} {to : Nat} {er : Nat → Nat} {n : Nat} {E : Nat → Nat → Int32} {DG : Nat → Int32} {tr : Nat → Nat} {T : Nat → Nat → Int64} {F : Nat → Int32} {j : Nat} (hj : j < 4) : (wTop tp ly lyg lyt LYG LYT tl tlg tlt TLG TLT ne neg net NEG NET su sug sut SUG SUT kp kr KH km sw tps rt pl P st my co C la lag lat LG LT po pog pot OG OT cJ cJJ cI cII mo eo dg to er n E DG tr T).set (14 + j) (kr j, .inl (cI, 6, .inl F)) = wTop tp ly lyg lyt LYG LYT tl tlg tlt TLG TLT ne neg net NEG NET su sug sut SUG SUT kp kr (updR KH j F) km sw tps rt pl P st my co C la lag lat LG LT po pog pot OG OT cJ cJJ cI cII mo eo dg to er n E DG tr T := by
  match j, hj with
  | 0, _ => rfl
  | 1, _ => rfl
  | 2, _ => rfl
  | 3, _ => rfl
theorem row_wTop_er {tp : Nat} {ly : Nat} {lyg : Nat} {lyt : Nat} {LYG : Nat → Int32} {LYT : Nat → Int32} {tl : Nat} {tlg : Nat} {tlt : Nat} {TLG : Nat → Int32} {TLT : Nat → Int32} {ne : Nat} {neg : Nat} {net : Nat} {NEG : Nat → Int32} {NET : Nat → Int32} {su : Nat} {sug : Nat} {sut : Nat} {SUG : Nat → Int32} {SUT : Nat → Int32} {kp : Nat} {kr : Nat → Nat} {KH : Nat → Nat → Int32} {km : Nat} {sw : Int32} {tps : Int32} {rt : Nat} {pl : Nat} {P : Nat → Int32} {st : Int32} {my : Nat} {co : Nat} {C : Nat → Int32} {la : Nat} {lag : Nat} {lat : Nat} {LG : Nat → Int32} {LT : Nat → Int32} {po : Nat} {pog : Nat} {pot : Nat} {OG : Nat → Int32} {OT : Nat → Int32} {cJ : ClassId} {cJJ : ClassId} {cI : ClassId} {cII : ClassId} {mo : Nat} {eo : Nat} {dg : Nat} {to : Nat} {er : Nat → Nat} {n : Nat} {E : Nat → Nat → Int32} {DG : Nat → Int32} {tr : Nat → Nat} {T : Nat → Nat → Int64} {j : Nat} (hj : j < 7) : (wTop tp ly lyg lyt LYG LYT tl tlg tlt TLG TLT ne neg net NEG NET su sug sut SUG SUT kp kr KH km sw tps rt pl P st my co C la lag lat LG LT po pog pot OG OT cJ cJJ cI cII mo eo dg to er n E DG tr T)[30 + j]? = some (er j, .inl (cI, 7, .inl (E j))) := by
  match j, hj with
  | 0, _ => rfl
  | 1, _ => rfl
  | 2, _ => rfl
  | 3, _ => rfl
  | 4, _ => rfl
  | 5, _ => rfl
  | 6, _ => rfl
theorem set_wTop_er {tp : Nat} {ly : Nat} {lyg : Nat} {lyt : Nat} {LYG : Nat → Int32} {LYT : Nat → Int32} {tl : Nat} {tlg : Nat} {tlt : Nat} {TLG : Nat → Int32} {TLT : Nat → Int32} {ne : Nat} {neg : Nat} {net : Nat} {NEG : Nat → Int32} {NET : Nat → Int32} {su : Nat} {sug : Nat} {sut : Nat} {SUG : Nat → Int32} {SUT : Nat → Int32} {kp : Nat} {kr : Nat → Nat} {KH : Nat → Nat → Int32} {km : Nat} {sw : Int32} {tps : Int32} {rt : Nat} {pl : Nat} {P : Nat → Int32} {st : Int32} {my : Nat} {co : Nat} {C : Nat → Int32} {la : Nat} {lag : Nat} {lat : Nat} {LG : Nat → Int32} {LT : Nat → Int32} {po : Nat} {pog : Nat} {pot : Nat} {OG : Nat → Int32} {OT : Nat → Int32} {cJ : ClassId} {cJJ : ClassId} {cI : ClassId} {cII : ClassId} {mo : Nat} {eo : Nat} {dg : Nat} {to : Nat} {er : Nat → Nat} {n : Nat} {E : Nat → Nat → Int32} {DG : Nat → Int32} {tr : Nat → Nat} {T : Nat → Nat → Int64} {F : Nat → Int32} {j : Nat} (hj : j < 7) : (wTop tp ly lyg lyt LYG LYT tl tlg tlt TLG TLT ne neg net NEG NET su sug sut SUG SUT kp kr KH km sw tps rt pl P st my co C la lag lat LG LT po pog pot OG OT cJ cJJ cI cII mo eo dg to er n E DG tr T).set (30 + j) (er j, .inl (cI, 7, .inl F)) = wTop tp ly lyg lyt LYG LYT tl tlg tlt TLG TLT ne neg net NEG NET su sug sut SUG SUT kp kr KH km sw tps rt pl P st my co C la lag lat LG LT po pog pot OG OT cJ cJJ cI cII mo eo dg to er n (updR E j F) DG tr T := by
  match j, hj with
  | 0, _ => rfl
  | 1, _ => rfl
  | 2, _ => rfl
  | 3, _ => rfl
  | 4, _ => rfl
  | 5, _ => rfl
  | 6, _ => rfl
theorem row_wTop_tr {tp : Nat} {ly : Nat} {lyg : Nat} {lyt : Nat} {LYG : Nat → Int32} {LYT : Nat → Int32} {tl : Nat} {tlg : Nat} {tlt : Nat} {TLG : Nat → Int32} {TLT : Nat → Int32} {ne : Nat} {neg : Nat} {net : Nat} {NEG : Nat → Int32} {NET : Nat → Int32} {su : Nat} {sug : Nat} {sut : Nat} {SUG : Nat → Int32} {SUT : Nat → Int32} {kp : Nat} {kr : Nat → Nat} {KH : Nat → Nat → Int32} {km : Nat} {sw : Int32} {tps : Int32} {rt : Nat} {pl : Nat} {P : Nat → Int32} {st : Int32} {my : Nat} {co : Nat} {C : Nat → Int32} {la : Nat} {lag : Nat} {lat : Nat} {LG : Nat → Int32} {LT : Nat → Int32} {po : Nat} {pog : Nat} {pot : Nat} {OG : Nat → Int32} {OT : Nat → Int32} {cJ : ClassId} {cJJ : ClassId} {cI : ClassId} {cII : ClassId} {mo : Nat} {eo : Nat} {dg : Nat} {to : Nat} {er : Nat → Nat} {n : Nat} {E : Nat → Nat → Int32} {DG : Nat → Int32} {tr : Nat → Nat} {T : Nat → Nat → Int64} {j : Nat} (hj : j < 6) : (wTop tp ly lyg lyt LYG LYT tl tlg tlt TLG TLT ne neg net NEG NET su sug sut SUG SUT kp kr KH km sw tps rt pl P st my co C la lag lat LG LT po pog pot OG OT cJ cJJ cI cII mo eo dg to er n E DG tr T)[39 + j]? = some (tr j, .inl (cJ, 6, .inr (.inl (T j)))) := by
  match j, hj with
  | 0, _ => rfl
  | 1, _ => rfl
  | 2, _ => rfl
  | 3, _ => rfl
  | 4, _ => rfl
  | 5, _ => rfl
theorem set_wTop_tr {tp : Nat} {ly : Nat} {lyg : Nat} {lyt : Nat} {LYG : Nat → Int32} {LYT : Nat → Int32} {tl : Nat} {tlg : Nat} {tlt : Nat} {TLG : Nat → Int32} {TLT : Nat → Int32} {ne : Nat} {neg : Nat} {net : Nat} {NEG : Nat → Int32} {NET : Nat → Int32} {su : Nat} {sug : Nat} {sut : Nat} {SUG : Nat → Int32} {SUT : Nat → Int32} {kp : Nat} {kr : Nat → Nat} {KH : Nat → Nat → Int32} {km : Nat} {sw : Int32} {tps : Int32} {rt : Nat} {pl : Nat} {P : Nat → Int32} {st : Int32} {my : Nat} {co : Nat} {C : Nat → Int32} {la : Nat} {lag : Nat} {lat : Nat} {LG : Nat → Int32} {LT : Nat → Int32} {po : Nat} {pog : Nat} {pot : Nat} {OG : Nat → Int32} {OT : Nat → Int32} {cJ : ClassId} {cJJ : ClassId} {cI : ClassId} {cII : ClassId} {mo : Nat} {eo : Nat} {dg : Nat} {to : Nat} {er : Nat → Nat} {n : Nat} {E : Nat → Nat → Int32} {DG : Nat → Int32} {tr : Nat → Nat} {T : Nat → Nat → Int64} {F : Nat → Int64} {j : Nat} (hj : j < 6) : (wTop tp ly lyg lyt LYG LYT tl tlg tlt TLG TLT ne neg net NEG NET su sug sut SUG SUT kp kr KH km sw tps rt pl P st my co C la lag lat LG LT po pog pot OG OT cJ cJJ cI cII mo eo dg to er n E DG tr T).set (39 + j) (tr j, .inl (cJ, 6, .inr (.inl F))) = wTop tp ly lyg lyt LYG LYT tl tlg tlt TLG TLT ne neg net NEG NET su sug sut SUG SUT kp kr KH km sw tps rt pl P st my co C la lag lat LG LT po pog pot OG OT cJ cJJ cI cII mo eo dg to er n E DG tr (updR T j F) := by
  match j, hj with
  | 0, _ => rfl
  | 1, _ => rfl
  | 2, _ => rfl
  | 3, _ => rfl
  | 4, _ => rfl
  | 5, _ => rfl
