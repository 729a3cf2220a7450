/-- cells that the invariant doesn't speak of -/
def scr (k s : Nat) : Bool := (cond (Nat.blt k 53) (cond (Nat.blt k 26) (cond (Nat.blt k 13) (cond (Nat.blt k 6) (cond (Nat.blt k 3) (cond (Nat.blt k 1) (Nat.beq s 15 || Nat.beq s 16 || Nat.beq s 17 || Nat.beq s 18 || Nat.beq s 12 || Nat.beq s 31 || Nat.beq s 32 || Nat.beq s 33 || Nat.beq s 35 || Nat.beq s 36 || Nat.beq s 56 || Nat.beq s 57 || Nat.beq s 69) (cond (Nat.blt k 2) false false)) (cond (Nat.blt k 4) false (cond (Nat.blt k 5) false false))) (cond (Nat.blt k 9) (cond (Nat.blt k 7) (Nat.beq s 1 || Nat.beq s 2 || Nat.beq s 3) (cond (Nat.blt k 8) false true)) (cond (Nat.blt k 11) (cond (Nat.blt k 10) false true) (cond (Nat.blt k 12) (Nat.beq s 8 || Nat.beq s 9) false)))) (cond (Nat.blt k 19) (cond (Nat.blt k 16) (cond (Nat.blt k 14) false (cond (Nat.blt k 15) false false)) (cond (Nat.blt k 17) false (cond (Nat.blt k 18) false false))) (cond (Nat.blt k 22) (cond (Nat.blt k 20) false (cond (Nat.blt k 21) true false)) (cond (Nat.blt k 24) (cond (Nat.blt k 23) false false) (cond (Nat.blt k 25) false false))))) (cond (Nat.blt k 39) (cond (Nat.blt k 32) (cond (Nat.blt k 29) (cond (Nat.blt k 27) false (cond (Nat.blt k 28) false false)) (cond (Nat.blt k 30) false (cond (Nat.blt k 31) false true))) (cond (Nat.blt k 35) (cond (Nat.blt k 33) true (cond (Nat.blt k 34) false false)) (cond (Nat.blt k 37) (cond (Nat.blt k 36) false false) (cond (Nat.blt k 38) false false)))) (cond (Nat.blt k 46) (cond (Nat.blt k 42) (cond (Nat.blt k 40) false (cond (Nat.blt k 41) false false)) (cond (Nat.blt k 44) (cond (Nat.blt k 43) true true) (cond (Nat.blt k 45) true true))) (cond (Nat.blt k 49) (cond (Nat.blt k 47) true (cond (Nat.blt k 48) true true)) (cond (Nat.blt k 51) (cond (Nat.blt k 50) false false) (cond (Nat.blt k 52) false false)))))) (cond (Nat.blt k 79) (cond (Nat.blt k 66) (cond (Nat.blt k 59) (cond (Nat.blt k 56) (cond (Nat.blt k 54) false (cond (Nat.blt k 55) false false)) (cond (Nat.blt k 57) false (cond (Nat.blt k 58) true false))) (cond (Nat.blt k 62) (cond (Nat.blt k 60) false (cond (Nat.blt k 61) false false)) (cond (Nat.blt k 64) (cond (Nat.blt k 63) false false) (cond (Nat.blt k 65) false false)))) (cond (Nat.blt k 72) (cond (Nat.blt k 69) (cond (Nat.blt k 67) false (cond (Nat.blt k 68) false false)) (cond (Nat.blt k 70) false (cond (Nat.blt k 71) false false))) (cond (Nat.blt k 75) (cond (Nat.blt k 73) true (cond (Nat.blt k 74) false false)) (cond (Nat.blt k 77) (cond (Nat.blt k 76) false false) (cond (Nat.blt k 78) false true))))) (cond (Nat.blt k 92) (cond (Nat.blt k 85) (cond (Nat.blt k 82) (cond (Nat.blt k 80) true (cond (Nat.blt k 81) true false)) (cond (Nat.blt k 83) false (cond (Nat.blt k 84) false false))) (cond (Nat.blt k 88) (cond (Nat.blt k 86) true (cond (Nat.blt k 87) true true)) (cond (Nat.blt k 90) (cond (Nat.blt k 89) true true) (cond (Nat.blt k 91) true true)))) (cond (Nat.blt k 99) (cond (Nat.blt k 95) (cond (Nat.blt k 93) true (cond (Nat.blt k 94) true true)) (cond (Nat.blt k 97) (cond (Nat.blt k 96) true true) (cond (Nat.blt k 98) true false))) (cond (Nat.blt k 102) (cond (Nat.blt k 100) false (cond (Nat.blt k 101) false false)) (cond (Nat.blt k 104) (cond (Nat.blt k 103) false false) (cond (Nat.blt k 105) true false)))))))
/-- the same but for those cells -/
def Sim (σ σ2 : HS) : Prop := ∀ k i s, scr k s = false → σ2.1 k i s = σ.1 k i s
theorem Sim.rf {σ : HS} : Sim σ σ := fun _ _ _ _ => rfl
theorem Sim.tr {σ σ2 σ3 : HS} (h1 : Sim σ σ2) (h2 : Sim σ2 σ3) : Sim σ σ3 := fun k i s h => (h2 k i s h).trans (h1 k i s h)
theorem Sim.up {σ σ2 : HS} {k i s : Nat} {x : Int32} (h : Sim σ σ2) (hs : scr k s = true) : Sim σ (up σ2 k i s x) := by
  intro k' i' s' h'
  have : ¬ (k' = k ∧ i' = i ∧ s' = s) := fun z => by rw [z.1, z.2.2, hs] at h'; cases h'
  show (if _ then _ else _) = _
  rw [if_neg this]
  exact h k' i' s' h'
theorem Sim.inv {σ σ2 : HS} (h : Sim σ σ2) (hI : Inv σ) : Inv σ2 := by
  have Ee_kCarriers : σ2.1 5 = σ.1 5 := funext fun i => funext fun s => h 5 i s rfl
  have Ee_kCarriers_age : σ2.1 68 = σ.1 68 := funext fun i => funext fun s => h 68 i s rfl
  have Ee_kCarriers_arrival : σ2.1 70 = σ.1 70 := funext fun i => funext fun s => h 70 i s rfl
  have Ee_kCarriers_kind : σ2.1 67 = σ.1 67 := funext fun i => funext fun s => h 67 i s rfl
  have Ee_kCarriers_measures : σ2.1 69 = σ.1 69 := funext fun i => funext fun s => h 69 i s rfl
  have Ee_kCarriers_to : σ2.1 66 = σ.1 66 := funext fun i => funext fun s => h 66 i s rfl
  have Ee_kDaysRow : σ2.1 61 = σ.1 61 := funext fun i => funext fun s => h 61 i s rfl
  have Ee_kFeasts : σ2.1 9 = σ.1 9 := funext fun i => funext fun s => h 9 i s rfl
  have Ee_kFeasts_kind : σ2.1 83 = σ.1 83 := funext fun i => funext fun s => h 83 i s rfl
  have Ee_kFeasts_measures : σ2.1 84 = σ.1 84 := funext fun i => funext fun s => h 84 i s rfl
  have Ee_kFeasts_month : σ2.1 82 = σ.1 82 := funext fun i => funext fun s => h 82 i s rfl
  have Ee_kFeasts_town : σ2.1 81 = σ.1 81 := funext fun i => funext fun s => h 81 i s rfl
  have Ee_kLand : σ2.1 2 = σ.1 2 := funext fun i => funext fun s => h 2 i s rfl
  have Ee_kLand_keeping : σ2.1 62 = σ.1 62 := funext fun i => funext fun s => h 62 i s rfl
  have Ee_kLedger_amount : σ2.1 101 = σ.1 101 := funext fun i => funext fun s => h 101 i s rfl
  have Ee_kLedger_keeper : σ2.1 98 = σ.1 98 := funext fun i => funext fun s => h 98 i s rfl
  have Ee_kLedger_month : σ2.1 100 = σ.1 100 := funext fun i => funext fun s => h 100 i s rfl
  have Ee_kLedger_subject : σ2.1 99 = σ.1 99 := funext fun i => funext fun s => h 99 i s rfl
  have Ee_kLedger_toldIn : σ2.1 102 = σ.1 102 := funext fun i => funext fun s => h 102 i s rfl
  have Ee_kLedger_untoldIn : σ2.1 103 = σ.1 103 := funext fun i => funext fun s => h 103 i s rfl
  have Ee_kLots : σ2.1 65 = σ.1 65 := funext fun i => funext fun s => h 65 i s rfl
  have Ee_kM_cCount : σ2.1 54 = σ.1 54 := funext fun i => funext fun s => h 54 i s rfl
  have Ee_kM_cKeeper : σ2.1 50 = σ.1 50 := funext fun i => funext fun s => h 50 i s rfl
  have Ee_kM_cKind : σ2.1 52 = σ.1 52 := funext fun i => funext fun s => h 52 i s rfl
  have Ee_kM_cMonth : σ2.1 53 = σ.1 53 := funext fun i => funext fun s => h 53 i s rfl
  have Ee_kM_cTold : σ2.1 55 = σ.1 55 := funext fun i => funext fun s => h 55 i s rfl
  have Ee_kM_cTown : σ2.1 51 = σ.1 51 := funext fun i => funext fun s => h 51 i s rfl
  have Ee_kM_cUntold : σ2.1 56 = σ.1 56 := funext fun i => funext fun s => h 56 i s rfl
  have Ee_kM_code : σ2.1 28 = σ.1 28 := funext fun i => funext fun s => h 28 i s rfl
  have Ee_kM_codeKind : σ2.1 30 = σ.1 30 := funext fun i => funext fun s => h 30 i s rfl
  have Ee_kM_codeNumber : σ2.1 29 = σ.1 29 := funext fun i => funext fun s => h 29 i s rfl
  have Ee_kM_days : σ2.1 15 = σ.1 15 := funext fun i => funext fun s => h 15 i s rfl
  have Ee_kM_fKind : σ2.1 40 = σ.1 40 := funext fun i => funext fun s => h 40 i s rfl
  have Ee_kM_fMeasures : σ2.1 41 = σ.1 41 := funext fun i => funext fun s => h 41 i s rfl
  have Ee_kM_fMonth : σ2.1 39 = σ.1 39 := funext fun i => funext fun s => h 39 i s rfl
  have Ee_kM_fTown : σ2.1 38 = σ.1 38 := funext fun i => funext fun s => h 38 i s rfl
  have Ee_kM_handsOf : σ2.1 49 = σ.1 49 := funext fun i => funext fun s => h 49 i s rfl
  have Ee_kM_keeps : σ2.1 16 = σ.1 16 := funext fun i => funext fun s => h 16 i s rfl
  have Ee_kM_lFrom : σ2.1 22 = σ.1 22 := funext fun i => funext fun s => h 22 i s rfl
  have Ee_kM_lIn : σ2.1 27 = σ.1 27 := funext fun i => funext fun s => h 27 i s rfl
  have Ee_kM_lKind : σ2.1 25 = σ.1 25 := funext fun i => funext fun s => h 25 i s rfl
  have Ee_kM_lMeasures : σ2.1 24 = σ.1 24 := funext fun i => funext fun s => h 24 i s rfl
  have Ee_kM_lOut : σ2.1 26 = σ.1 26 := funext fun i => funext fun s => h 26 i s rfl
  have Ee_kM_lTo : σ2.1 23 = σ.1 23 := funext fun i => funext fun s => h 23 i s rfl
  have Ee_kM_lineMany : σ2.1 21 = σ.1 21 := funext fun i => funext fun s => h 21 i s rfl
  have Ee_kM_lots : σ2.1 17 = σ.1 17 := funext fun i => funext fun s => h 17 i s rfl
  have Ee_kM_people : σ2.1 13 = σ.1 13 := funext fun i => funext fun s => h 13 i s rfl
  have Ee_kM_room : σ2.1 12 = σ.1 12 := funext fun i => funext fun s => h 12 i s rfl
  have Ee_kM_sums : σ2.1 18 = σ.1 18 := funext fun i => funext fun s => h 18 i s rfl
  have Ee_kM_tape : σ2.1 19 = σ.1 19 := funext fun i => funext fun s => h 19 i s rfl
  have Ee_kM_tens : σ2.1 14 = σ.1 14 := funext fun i => funext fun s => h 14 i s rfl
  have Ee_kM_wAge : σ2.1 35 = σ.1 35 := funext fun i => funext fun s => h 35 i s rfl
  have Ee_kM_wComes : σ2.1 37 = σ.1 37 := funext fun i => funext fun s => h 37 i s rfl
  have Ee_kM_wKind : σ2.1 34 = σ.1 34 := funext fun i => funext fun s => h 34 i s rfl
  have Ee_kM_wMeasures : σ2.1 36 = σ.1 36 := funext fun i => funext fun s => h 36 i s rfl
  have Ee_kM_wTown : σ2.1 33 = σ.1 33 := funext fun i => funext fun s => h 33 i s rfl
  have Ee_kOrders : σ2.1 7 = σ.1 7 := funext fun i => funext fun s => h 7 i s rfl
  have Ee_kOrders_from : σ2.1 76 = σ.1 76 := funext fun i => funext fun s => h 76 i s rfl
  have Ee_kOrders_kind : σ2.1 75 = σ.1 75 := funext fun i => funext fun s => h 75 i s rfl
  have Ee_kOrders_measures : σ2.1 74 = σ.1 74 := funext fun i => funext fun s => h 74 i s rfl
  have Ee_kOrders_steps : σ2.1 71 = σ.1 71 := funext fun i => funext fun s => h 71 i s rfl
  have Ee_kOrders_stepsStop : σ2.1 73 = σ.1 73 := funext fun i => funext fun s => h 73 i s rfl
  have Ee_kOrders_to : σ2.1 77 = σ.1 77 := funext fun i => funext fun s => h 77 i s rfl
  have Ee_kS : σ2.1 1 = σ.1 1 := funext fun i => funext fun s => h 1 i s rfl
  have Ee_kS_tape : σ2.1 58 = σ.1 58 := funext fun i => funext fun s => h 58 i s rfl
  have Ee_kTally : σ2.1 4 = σ.1 4 := funext fun i => funext fun s => h 4 i s rfl
  have Ee_kTown : σ2.1 3 = σ.1 3 := funext fun i => funext fun s => h 3 i s rfl
  have Ee_kTown_held : σ2.1 63 = σ.1 63 := funext fun i => funext fun s => h 63 i s rfl
  have Ee_kLedger_f_Ledger_size : σ2.1 11 0 6 = σ.1 11 0 6 := h 11 0 6 rfl
  have Ee_kM_f_M_bank : σ2.1 0 0 30 = σ.1 0 0 30 := h 0 0 30 rfl
  have Ee_kM_f_M_counts : σ2.1 0 0 68 = σ.1 0 0 68 := h 0 0 68 rfl
  have Ee_kM_f_M_faultKind : σ2.1 0 0 13 = σ.1 0 0 13 := h 0 0 13 rfl
  have Ee_kM_f_M_faultPlace : σ2.1 0 0 14 = σ.1 0 0 14 := h 0 0 14 rfl
  have Ee_kM_f_M_feasts : σ2.1 0 0 55 = σ.1 0 0 55 := h 0 0 55 rfl
  have Ee_kM_f_M_handsAll : σ2.1 0 0 59 = σ.1 0 0 59 := h 0 0 59 rfl
  have Ee_kM_f_M_loads : σ2.1 0 0 43 = σ.1 0 0 43 := h 0 0 43 rfl
  have Ee_kM_f_M_month : σ2.1 0 0 8 = σ.1 0 0 8 := h 0 0 8 rfl
  have Ee_kM_f_M_taped : σ2.1 0 0 11 = σ.1 0 0 11 := h 0 0 11 rfl
  have Ee_kM_f_M_towns : σ2.1 0 0 7 = σ.1 0 0 7 := h 0 0 7 rfl
  have Ee_kOrderBook_f_OrderBook_draft : σ2.1 6 0 5 = σ.1 6 0 5 := h 6 0 5 rfl
  have Ee_kOrderBook_f_OrderBook_faultKind : σ2.1 6 0 6 = σ.1 6 0 6 := h 6 0 6 rfl
  have Ee_kOrderBook_f_OrderBook_faultPlace : σ2.1 6 0 7 = σ.1 6 0 7 := h 6 0 7 rfl
  have Ee_kOrderBook_f_OrderBook_ruling : σ2.1 6 0 4 = σ.1 6 0 4 := h 6 0 4 rfl
  obtain ⟨h1, h2, h3, h4, h5, h6, h7, h8, h9, h10, h11, h12, h13, h14⟩ := hI
  refine ⟨?_, ?_, ?_, ?_, ?_, ?_, ?_, ?_, ?_, ?_, ?_, ?_, ?_, ?_⟩
  · simp only [I1, Ee_kM_f_M_towns, Ee_kLand, Ee_kM_room]
    exact h1
  · simp only [I2, Ee_kM_f_M_month, Ee_kLand]
    exact h2
  · simp only [I3, Ee_kM_room, Ee_kM_people, Ee_kM_tens, Ee_kTown]
    exact h3
  · simp only [I4, Ee_kDaysRow, Ee_kM_days]
    exact h4
  · simp only [I5, Ee_kLand_keeping, Ee_kM_keeps]
    exact h5
  · simp only [I6, Ee_kM_lots, Ee_kLots, Ee_kTown_held, Ee_kM_room]
    exact h6
  · simp only [I7, Ee_kTally, Ee_kM_sums]
    exact h7
  · simp only [I8, Ee_kM_f_M_loads, Ee_kCarriers, Ee_kCarriers_to, Ee_kM_wTown, Ee_kCarriers_kind, Ee_kM_wKind, Ee_kCarriers_age, Ee_kM_wAge, Ee_kCarriers_measures, Ee_kM_wMeasures, Ee_kCarriers_arrival, Ee_kM_wComes, Ee_kM_f_M_towns, Ee_kM_f_M_month]
    exact h8
  · simp only [I9, Ee_kM_f_M_taped, Ee_kS, Ee_kS_tape, Ee_kM_tape]
    exact h9
  · simp only [I10, Ee_kOrderBook_f_OrderBook_ruling, Ee_kOrderBook_f_OrderBook_draft, Ee_kM_f_M_bank, Ee_kOrders, Ee_kM_lineMany, Ee_kOrders_stepsStop, Ee_kM_lFrom, Ee_kM_lTo, Ee_kOrders_measures, Ee_kM_lMeasures, Ee_kOrders_kind, Ee_kM_lKind, Ee_kOrders_from, Ee_kM_lOut, Ee_kOrders_to, Ee_kM_lIn, Ee_kM_code, Ee_kM_codeNumber, Ee_kM_codeKind, Ee_kOrders_steps]
    exact h10
  · simp only [I11, Ee_kOrderBook_f_OrderBook_faultKind, Ee_kM_f_M_faultKind, Ee_kOrderBook_f_OrderBook_faultPlace, Ee_kM_f_M_faultPlace]
    exact h11
  · simp only [I12, Ee_kM_f_M_feasts, Ee_kFeasts, Ee_kFeasts_town, Ee_kM_fTown, Ee_kFeasts_month, Ee_kM_fMonth, Ee_kFeasts_kind, Ee_kM_fKind, Ee_kFeasts_measures, Ee_kM_fMeasures, Ee_kM_f_M_towns]
    exact h12
  · simp only [I13, Ee_kLand, Ee_kM_f_M_handsAll, Ee_kTown, Ee_kM_handsOf]
    exact h13
  · simp only [I14, Ee_kM_f_M_counts, Ee_kLedger_f_Ledger_size, Ee_kM_cKeeper, Ee_kLedger_keeper, Ee_kM_f_M_towns, Ee_kM_cTown, Ee_kM_cKind, Ee_kLedger_subject, Ee_kLedger_month, Ee_kM_cMonth, Ee_kLedger_amount, Ee_kM_cCount, Ee_kLedger_toldIn, Ee_kM_cTold, Ee_kLedger_untoldIn, Ee_kM_cUntold]
    exact h14
