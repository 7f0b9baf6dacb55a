theorem yes_of {P : Prop} {CD : Nat} {r : Int32} {u S : SA} (h : P ∨ ∃ q : Nat, ¬ q = 0 ∧ r = wneg q ∧ CD = q ∧ u = S) (h0 : CD = 0) : P :=
  h.elim id (fun ⟨_, a, _, b, _⟩ => absurd (b.symm.trans h0) a)
theorem op_nin {a b : Nat} (ha : a < 2 ^ 31) (hb : b < 2 ^ 31) (h : nI a = nI b) : b = a := ((nI_eq (by omega) (by omega)).mp h).symm
theorem gv_s {T X : SA} {a : Nat} {d : Int32} {i n : Nat} (h : gvS T a d i = X ∧ gvC T a d i = n) (hb : gvB X a d i = true) : gvS T a d (i + 1) = giS X a i ∧ gvC T a d (i + 1) = n + 1 := by
  obtain ⟨rfl, rfl⟩ := h
  exact gv_t hb
theorem gv_n {T X : SA} {a : Nat} {d : Int32} {i n : Nat} (h : gvS T a d i = X ∧ gvC T a d i = n) (hb : gvB X a d i = false) : gvS T a d (i + 1) = X ∧ gvC T a d (i + 1) = n := by
  obtain ⟨rfl, rfl⟩ := h
  exact gv_f hb
def adS (S : SA) : SA := sN S 0 (S.1 0 + 1)
def alS (S : SA) (g : Nat) (v : Int32) : SA := (sN (sI (sI (sI (sI S 1 (upd (S.2.1 1) g ((S.2.1 1) g + nI 1))) 2 (upd (S.2.1 2) (S.1 1) (nI g))) 3 (upd (S.2.1 3) (S.1 1) ((S.2.1 1) g))) 4 (upd (S.2.1 4) (S.1 1) v)) 1 (S.1 1 + 1))
def arS (S : SA) (f g t : Int32) : SA := (sN (sI (sI (sI S 5 (upd (S.2.1 5) (S.1 2) f)) 6 (upd (S.2.1 6) (S.1 2) g)) 7 (upd (S.2.1 7) (S.1 2) t)) 2 (S.1 2 + 1))
def rqS (S : SA) (a d : Int32) : SA := (sN (sI (sI (sI (sI S 15 (upd (S.2.1 15) (S.1 6) a)) 16 (upd (S.2.1 16) (S.1 6) d)) 17 (upd (S.2.1 17) (S.1 6) (nI 119))) 18 (upd (S.2.1 18) (S.1 6) (nI (S.1 7)))) 6 (S.1 6 + 1))
def awT (S : SA) (g : Nat) : SA := sI S 17 (upd (S.2.1 17) g (nI 97))
def O1 : SA := adS S0
def O2 : SA := adS O1
def O3 : SA := alS O2 0 (nI 0)
def O4 : SA := alS O3 1 (nI 10)
def O5 : SA := alS O4 0 (nI 20)
def O6 : SA := alS O5 1 (nI 30)
def O7 : SA := alS O6 0 (nI 40)
def O8 : SA := alS O7 1 (nI 50)
def O9 : SA := alS O8 0 (nI 60)
def O10 : SA := grS (jnS O9 0 2 1) 5
def O11 : SA := arS O10 (nI 10) (nI 10) (nI 4)
def O12 : SA := rqS O11 (nI 0) (nI 0)
def O13 : SA := giS (giS (giS (awT O12 0) 0 0) 0 4) 0 6
def O14 : SA := sN O13 7 5
def O15 : SA := rqS O14 (nI 0) (nI 0)
def O16 : SA := giS (awT O15 1) 0 2
theorem gv_O13 : gvS (awT O12 0) 0 (nI 0) 7 = O13 ∧ gvC (awT O12 0) 0 (nI 0) 7 = 3 :=
  gv_s (gv_n (gv_s (gv_n (gv_n (gv_n (gv_s (X := awT O12 0) (n := 0) ⟨rfl, rfl⟩ (by decide +kernel)) (by decide +kernel)) (by decide +kernel)) (by decide +kernel)) (by decide +kernel)) (by decide +kernel)) (by decide +kernel)
theorem gv_O16 : gvS (awT O15 1) 0 (nI 0) 7 = O16 ∧ gvC (awT O15 1) 0 (nI 0) 7 = 1 :=
  gv_n (gv_n (gv_n (gv_n (gv_s (gv_n (gv_n (X := awT O15 1) (n := 0) ⟨rfl, rfl⟩ (by decide +kernel)) (by decide +kernel)) (by decide +kernel)) (by decide +kernel)) (by decide +kernel)) (by decide +kernel)) (by decide +kernel)
