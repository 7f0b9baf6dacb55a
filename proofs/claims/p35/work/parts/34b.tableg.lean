theorem tab_G0 : runL tmG (fun j => .long (tbG j)) ((GV.drop 241).take 100) 0 = true ∧ ((GV.drop 241).take 100).length = 100 := by decide +kernel
theorem tab_G1 : runL tmG (fun j => .long (tbG j)) ((GV.drop 341).take 100) 100 = true ∧ ((GV.drop 341).take 100).length = 100 := by decide +kernel
theorem tab_G2 : runL tmG (fun j => .long (tbG j)) ((GV.drop 441).take 100) 200 = true ∧ ((GV.drop 441).take 100).length = 100 := by decide +kernel
theorem tab_G3 : runL tmG (fun j => .long (tbG j)) ((GV.drop 541).take 100) 300 = true ∧ ((GV.drop 541).take 100).length = 100 := by decide +kernel
theorem tab_G4 : runL tmG (fun j => .long (tbG j)) ((GV.drop 641).take 100) 400 = true ∧ ((GV.drop 641).take 100).length = 100 := by decide +kernel
theorem tab_G5 : runL tmG (fun j => .long (tbG j)) ((GV.drop 741).take 100) 500 = true ∧ ((GV.drop 741).take 100).length = 100 := by decide +kernel
theorem tab_G6 : runL tmG (fun j => .long (tbG j)) ((GV.drop 841).take 100) 600 = true ∧ ((GV.drop 841).take 100).length = 100 := by decide +kernel
theorem tab_G7 : runL tmG (fun j => .long (tbG j)) ((GV.drop 941).take 100) 700 = true ∧ ((GV.drop 941).take 100).length = 100 := by decide +kernel
theorem tab_G8 : runL tmG (fun j => .long (tbG j)) ((GV.drop 1041).take 100) 800 = true ∧ ((GV.drop 1041).take 100).length = 100 := by decide +kernel
theorem tab_G9 : runL tmG (fun j => .long (tbG j)) ((GV.drop 1141).take 100) 900 = true ∧ ((GV.drop 1141).take 100).length = 100 := by decide +kernel
theorem tab_G10 : runL tmG (fun j => .long (tbG j)) ((GV.drop 1241).take 100) 1000 = true ∧ ((GV.drop 1241).take 100).length = 100 := by decide +kernel
theorem tab_G11 : runL tmG (fun j => .long (tbG j)) ((GV.drop 1341).take 100) 1100 = true ∧ ((GV.drop 1341).take 100).length = 100 := by decide +kernel
theorem tab_G12 : runL tmG (fun j => .long (tbG j)) ((GV.drop 1441).take 34) 1200 = true ∧ ((GV.drop 1441).take 34).length = 34 := by decide +kernel
theorem tab_G : ∀ j, j < 1234 → Cond.eq (.elem tmG (.int (Int32.ofNat j))) (.long (tbG j)) ∈ GV := fun j hj => by
  have key : ∀ {a m j0 : Nat}, (runL tmG (fun j => .long (tbG j)) ((GV.drop a).take m) j0 = true ∧ ((GV.drop a).take m).length = m) → j0 ≤ j → j < j0 + m → Cond.eq (.elem tmG (.int (Int32.ofNat j))) (.long (tbG j)) ∈ GV := fun {a m j0} h h1 h2 => by
    have h3 := tab_mem h.1 h.2 (i := j - j0) (by omega)
    rw [show j0 + (j - j0) = j by omega] at h3
    exact h3
  by_cases c0 : j < 100
  · exact key tab_G0 (by omega) c0
  by_cases c1 : j < 200
  · exact key tab_G1 (by omega) c1
  by_cases c2 : j < 300
  · exact key tab_G2 (by omega) c2
  by_cases c3 : j < 400
  · exact key tab_G3 (by omega) c3
  by_cases c4 : j < 500
  · exact key tab_G4 (by omega) c4
  by_cases c5 : j < 600
  · exact key tab_G5 (by omega) c5
  by_cases c6 : j < 700
  · exact key tab_G6 (by omega) c6
  by_cases c7 : j < 800
  · exact key tab_G7 (by omega) c7
  by_cases c8 : j < 900
  · exact key tab_G8 (by omega) c8
  by_cases c9 : j < 1000
  · exact key tab_G9 (by omega) c9
  by_cases c10 : j < 1100
  · exact key tab_G10 (by omega) c10
  by_cases c11 : j < 1200
  · exact key tab_G11 (by omega) c11
  exact key tab_G12 (by omega) (by omega)
