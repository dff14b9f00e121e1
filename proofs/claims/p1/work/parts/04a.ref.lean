set_option maxHeartbeats 4000000 in
set_option maxRecDepth 100000 in
theorem xcX12_isBetween (l : Launch) (hst : l.stackTraces = false) (dC : Nat → ClassId) (dI : Nat → Nat → Nat) (T : Nat → ClassId) (sz : Nat) (p0 : Int64) : Met l yX12_isBetween wsX12_isBetween ({ frames := 0, cells := 0, slots := 0, locals := 0 } : Room) (va_Pc [.long p0, .long (-100), .long 100] (fun U => xB dC dI T [] sz U)) (va_Qi (fun (r u : Int32) => r = u) (fun (u : Int32) (t : State) => (((p0.toInt < -100) ∨ ((¬ (p0.toInt < -100)) ∧ (100 < p0.toInt))) ∧ 0 = u ∧ xE dC dI [] (va_A [] sz) t) ∨ (((¬ (p0.toInt < -100)) ∧ (¬ (100 < p0.toInt))) ∧ 1 = u ∧ xE dC dI [] (va_A [] sz) t)) (va_A [] sz)) 0 0 (va_A [] sz) := by
  refine Met.ofW (cc := cX12_isBetween) (maxL := 6) (ret := (some .boolean)) (by decide +kernel) rfl ?_
  intro p e s m args below meth c s₁ B hml hv
  obtain ⟨rfl, hsz, hP, hK, hD0, hG⟩ := hv
  have hx := B.exec
  have hb := B.bytes
  have hr := B.returns
  have hts := atoms_spec (ws := wsX12_isBetween) B.pre
  have hown : s.vm.findClass RX12 = some m.cls := findClass_of_methodNamed B.named
  have hlocks := B.notSynchronized
  subst hsz
  have hD := hD0.self (sz := s.heap.size)
  generalize hAe : va_A [] s.heap.size = A at hD hG ⊢
  have hA : ∀ q : Nat, s.heap.size ≤ q → A q := fun q h => by rw [← hAe]; exact Or.inr h
  have hS : va_S A s.heap s.heap [] := va_S.rf
  have hl := lv_entry ([.long p0, .long (-100), .long 100]) (n := 6) (Nat.le_of_ble_eq_true rfl)
  rw [lg_entry_eq]
  generalize (lg_sl ([.long p0, .long (-100), .long 100]) ++ List.replicate (6 - (lg_sl ([.long p0, .long (-100), .long 100])).length) Slot.unset).toArray = ls at hl ⊢
  have hl : lv_has ls 6 [(0, .long p0), (2, .long (-100)), (4, .long 100)] := hl
  refine lv_lload_n hx hb dX12_isBetween_0 rfl (lv_at hl 1 rfl) ?_
  refine lv_lload_n hx hb dX12_isBetween_1 rfl (lv_at hl 0 rfl) ?_
  refine W.lcmp hx hb dX12_isBetween_2 ?_
  refine lv_if_gt (tgt := 17) hx hb dX12_isBetween_3 (by decide) (fun c_1 => ?_) (fun c_1 => ?_)
  · have nc_1 : p0.toInt < -100 := (xl_gt rfl (by decide +kernel)).mp c_1
    refine lv_iconst (v := 0) hx hb dX12_isBetween_17 (by decide) ?_
    have hP9 := hP.sub (ws' := []) [] rfl
    have hD9 := hD.sub (ws' := []) [] (by decide) rfl
    exact W.zret (v := 0) hx hb hr (by decide) (fun t ht hW => ⟨⟨_, _, rfl, rfl, (Or.inl ⟨(Or.inl nc_1), rfl, by rw [ht]; exact hP9, hD9⟩)⟩, hS.F ht⟩) hS.2.2 dX12_isBetween_18
  · have nc_1 : ¬ (p0.toInt < -100) := mt (xl_gt rfl (by decide +kernel)).mpr c_1
    refine lv_lload_n hx hb dX12_isBetween_6 rfl (lv_at hl 0 rfl) ?_
    refine lv_lload hx hb dX12_isBetween_7 (lv_at hl 2 rfl) ?_
    refine W.lcmp hx hb dX12_isBetween_9 ?_
    refine lv_if_gt (tgt := 17) hx hb dX12_isBetween_10 (by decide) (fun c_2 => ?_) (fun c_2 => ?_)
    · have nc_2 : 100 < p0.toInt := (xl_gt (by decide +kernel) rfl).mp c_2
      refine lv_iconst (v := 0) hx hb dX12_isBetween_17 (by decide) ?_
      have hP9 := hP.sub (ws' := []) [] rfl
      have hD9 := hD.sub (ws' := []) [] (by decide) rfl
      exact W.zret (v := 0) hx hb hr (by decide) (fun t ht hW => ⟨⟨_, _, rfl, rfl, (Or.inl ⟨(Or.inr (⟨nc_1, nc_2⟩)), rfl, by rw [ht]; exact hP9, hD9⟩)⟩, hS.F ht⟩) hS.2.2 dX12_isBetween_18
    · have nc_2 : ¬ (100 < p0.toInt) := mt (xl_gt (by decide +kernel) rfl).mpr c_2
      refine lv_iconst (v := 1) hx hb dX12_isBetween_13 (by decide) ?_
      refine lv_goto (tgt := 18) hx hb dX12_isBetween_14 (by decide) ?_
      have hP9 := hP.sub (ws' := []) [] rfl
      have hD9 := hD.sub (ws' := []) [] (by decide) rfl
      exact W.zret (v := 1) hx hb hr (by decide) (fun t ht hW => ⟨⟨_, _, rfl, rfl, (Or.inr (⟨⟨nc_1, nc_2⟩, rfl, by rw [ht]; exact hP9, hD9⟩))⟩, hS.F ht⟩) hS.2.2 dX12_isBetween_18
set_option maxHeartbeats 4000000 in
set_option maxRecDepth 100000 in
theorem xcX12_isPlace (l : Launch) (hst : l.stackTraces = false) (dC : Nat → ClassId) (dI : Nat → Nat → Nat) (T : Nat → ClassId) (sz : Nat) (p0 : Int32) (p1 : Int32) : Met l yX12_isPlace wsX12_isPlace ({ frames := 1, cells := 0, slots := 0, locals := 25 } : Room) (va_Pc [.int p0, .int p1, .int 100] (fun U => xB dC dI T [] sz U)) (va_Qi (fun (r u : Int32) => r = u) (fun (u : Int32) (t : State) => (((((p0.toInt64).toInt < -100) ∨ ((¬ ((p0.toInt64).toInt < -100)) ∧ (100 < (p0.toInt64).toInt))) ∨ (((¬ ((p0.toInt64).toInt < -100)) ∧ (¬ (100 < (p0.toInt64).toInt))) ∧ (((p1.toInt64).toInt < -100) ∨ ((¬ ((p1.toInt64).toInt < -100)) ∧ (100 < (p1.toInt64).toInt))))) ∧ 0 = u ∧ xE dC dI [] (va_A [] sz) t) ∨ ((((¬ ((p0.toInt64).toInt < -100)) ∧ (¬ (100 < (p0.toInt64).toInt))) ∧ ((¬ ((p1.toInt64).toInt < -100)) ∧ (¬ (100 < (p1.toInt64).toInt)))) ∧ 1 = u ∧ xE dC dI [] (va_A [] sz) t)) (va_A [] sz)) 0 0 (va_A [] sz) := by
  refine Met.ofW (cc := cX12_isPlace) (maxL := 3) (ret := (some .boolean)) (by decide +kernel) rfl ?_
  intro p e s m args below meth c s₁ B hml hv
  obtain ⟨rfl, hsz, hP, hK, hD0, hG⟩ := hv
  have hx := B.exec
  have hb := B.bytes
  have hr := B.returns
  have hts := atoms_spec (ws := wsX12_isPlace) B.pre
  have hown : s.vm.findClass RX12 = some m.cls := findClass_of_methodNamed B.named
  have hlocks := B.notSynchronized
  subst hsz
  have hD := hD0.self (sz := s.heap.size)
  generalize hAe : va_A [] s.heap.size = A at hD hG ⊢
  have hA : ∀ q : Nat, s.heap.size ≤ q → A q := fun q h => by rw [← hAe]; exact Or.inr h
  have hS : va_S A s.heap s.heap [] := va_S.rf
  have hl := lv_entry ([.int p0, .int p1, .int 100]) (n := 3) (Nat.le_of_ble_eq_true rfl)
  rw [lg_entry_eq]
  generalize (lg_sl ([.int p0, .int p1, .int 100]) ++ List.replicate (3 - (lg_sl ([.int p0, .int p1, .int 100])).length) Slot.unset).toArray = ls at hl ⊢
  have hl : lv_has ls 3 [(0, .int p0), (1, .int p1), (2, .int 100)] := hl
  refine lv_iload_n hx hb dX12_isPlace_0 rfl (lv_at hl 0 rfl) ?_
  refine lv_i2l hx hb dX12_isPlace_1 rfl ?_
  refine lv_iload_n hx hb dX12_isPlace_2 rfl (lv_at hl 2 rfl) ?_
  refine lv_ineg hx hb dX12_isPlace_3 ?_
  refine lv_topi (fun f_1 ef_1 => ?_)
  obtain rfl : f_1 = (-100) := ef_1.trans (by decide)
  refine lv_i2l (v := (-100)) hx hb dX12_isPlace_4 (by decide) ?_
  refine lv_iload_n hx hb dX12_isPlace_5 rfl (lv_at hl 2 rfl) ?_
  refine lv_i2l (v := 100) hx hb dX12_isPlace_6 (by decide) ?_
  have hPc := hP.sub (ws' := []) [] rfl
  have hDc := hD.sub (ws' := []) [] (by decide) rfl
  have hFc := va_free (wc := []) hD hS hA [] rfl
  refine va_calli (va_runS (As := [.long p0.toInt64, .long (-100), .long 100]) (rest := []) ⟨hx, hb, hml, hown, hts⟩ (xcX12_isBetween l hst dC dI T s.heap.size p0.toInt64) (cwS 3 hts gX12_isPlace_X12_isBetween rfl rfl rfl (by decide +kernel) ⟨Nat.le_of_ble_eq_true rfl, Nat.le_of_ble_eq_true rfl⟩) ⟨xBlind, xCall hK hG hS hPc hDc hFc⟩ rfl rfl hl.1 rfl (lv_room (Nat.le_of_ble_eq_true rfl)) dX12_isPlace_7 ⟨Nat.le_of_ble_eq_true rfl, Nat.le_of_ble_eq_true rfl⟩) hS (fun q _ h => hFc q h) hFc (fun r_9 u t H locs ht hvm hw hB hz1 hk1 hS => ?_)
  subst hw
  rcases hB with ⟨c_2, hr_9, hP1, hD1⟩ | ⟨c_3, hr_9, hP1, hD1⟩
  · have hz_4 : (p0.toInt64).toInt = p0.toInt := Int32.toInt_toInt64 _
    rw [ht] at hP1
    subst hr_9
    obtain ⟨hP, hD⟩ := va_join (wr := []) (w1 := []) hP hD [] [] rfl rfl (by decide) (by decide) hk1 hFc hP1 hD1
    have hP : va_P (dC, dI) vwCl [] H := hP
    have hD : va_D A [] := hD
    clear hPc hDc hFc hP1 hD1 hk1 hz1 ht hvm
    refine lv_if_eq (tgt := 30) hx hb dX12_isPlace_10 (by decide) (fun c_5 => ?_) (fun c_5 => absurd (by decide) c_5)
    refine lv_iconst (v := 0) hx hb dX12_isPlace_30 (by decide) ?_
    have hP9 := hP.sub (ws' := []) [] rfl
    have hD9 := hD.sub (ws' := []) [] (by decide) rfl
    exact W.zret (v := 0) hx hb hr (by decide) (fun t ht hW => ⟨⟨_, _, rfl, rfl, (Or.inl ⟨(Or.inl c_2), rfl, by rw [ht]; exact hP9, hD9⟩)⟩, hS.F ht⟩) hS.2.2 dX12_isPlace_31
  · have hz_6 : (p0.toInt64).toInt = p0.toInt := Int32.toInt_toInt64 _
    rw [ht] at hP1
    subst hr_9
    obtain ⟨hP, hD⟩ := va_join (wr := []) (w1 := []) hP hD [] [] rfl rfl (by decide) (by decide) hk1 hFc hP1 hD1
    have hP : va_P (dC, dI) vwCl [] H := hP
    have hD : va_D A [] := hD
    clear hPc hDc hFc hP1 hD1 hk1 hz1 ht hvm
    refine lv_if_eq (tgt := 30) hx hb dX12_isPlace_10 (by decide) (fun c_7 => absurd c_7 (by decide)) (fun c_7 => ?_)
    refine lv_iload_n hx hb dX12_isPlace_13 rfl (lv_at hl 1 rfl) ?_
    refine lv_i2l hx hb dX12_isPlace_14 rfl ?_
    refine lv_iload_n hx hb dX12_isPlace_15 rfl (lv_at hl 2 rfl) ?_
    refine lv_ineg hx hb dX12_isPlace_16 ?_
    refine lv_topi (fun f_8 ef_8 => ?_)
    obtain rfl : f_8 = (-100) := ef_8.trans (by decide)
    refine lv_i2l (v := (-100)) hx hb dX12_isPlace_17 (by decide) ?_
    refine lv_iload_n hx hb dX12_isPlace_18 rfl (lv_at hl 2 rfl) ?_
    refine lv_i2l (v := 100) hx hb dX12_isPlace_19 (by decide) ?_
    have hPc := hP.sub (ws' := []) [] rfl
    have hDc := hD.sub (ws' := []) [] (by decide) rfl
    have hFc := va_free (wc := []) hD hS hA [] rfl
    refine va_calli (va_runS (As := [.long p1.toInt64, .long (-100), .long 100]) (rest := []) ⟨hx, hb, hml, hown, hts⟩ (xcX12_isBetween l hst dC dI T H.size p1.toInt64) (cwS 3 hts gX12_isPlace_X12_isBetween rfl rfl rfl (by decide +kernel) ⟨Nat.le_of_ble_eq_true rfl, Nat.le_of_ble_eq_true rfl⟩) ⟨xBlind, xCall hK hG hS hPc hDc hFc⟩ rfl rfl hl.1 rfl (lv_room (Nat.le_of_ble_eq_true rfl)) dX12_isPlace_20 ⟨Nat.le_of_ble_eq_true rfl, Nat.le_of_ble_eq_true rfl⟩) hS (fun q _ h => hFc q h) hFc (fun r_9 u t H locs ht hvm hw hB hz1 hk1 hS => ?_)
    subst hw
    rcases hB with ⟨c_9, hr_9, hP1, hD1⟩ | ⟨c_10, hr_9, hP1, hD1⟩
    · have hz_11 : (p1.toInt64).toInt = p1.toInt := Int32.toInt_toInt64 _
      rw [ht] at hP1
      subst hr_9
      obtain ⟨hP, hD⟩ := va_join (wr := []) (w1 := []) hP hD [] [] rfl rfl (by decide) (by decide) hk1 hFc hP1 hD1
      have hP : va_P (dC, dI) vwCl [] H := hP
      have hD : va_D A [] := hD
      clear hPc hDc hFc hP1 hD1 hk1 hz1 ht hvm
      refine lv_if_eq (tgt := 30) hx hb dX12_isPlace_23 (by decide) (fun c_12 => ?_) (fun c_12 => absurd (by decide) c_12)
      refine lv_iconst (v := 0) hx hb dX12_isPlace_30 (by decide) ?_
      have hP9 := hP.sub (ws' := []) [] rfl
      have hD9 := hD.sub (ws' := []) [] (by decide) rfl
      exact W.zret (v := 0) hx hb hr (by decide) (fun t ht hW => ⟨⟨_, _, rfl, rfl, (Or.inl ⟨(Or.inr (⟨c_3, c_9⟩)), rfl, by rw [ht]; exact hP9, hD9⟩)⟩, hS.F ht⟩) hS.2.2 dX12_isPlace_31
    · have hz_13 : (p1.toInt64).toInt = p1.toInt := Int32.toInt_toInt64 _
      rw [ht] at hP1
      subst hr_9
      obtain ⟨hP, hD⟩ := va_join (wr := []) (w1 := []) hP hD [] [] rfl rfl (by decide) (by decide) hk1 hFc hP1 hD1
      have hP : va_P (dC, dI) vwCl [] H := hP
      have hD : va_D A [] := hD
      clear hPc hDc hFc hP1 hD1 hk1 hz1 ht hvm
      refine lv_if_eq (tgt := 30) hx hb dX12_isPlace_23 (by decide) (fun c_14 => absurd c_14 (by decide)) (fun c_14 => ?_)
      refine lv_iconst (v := 1) hx hb dX12_isPlace_26 (by decide) ?_
      refine lv_goto (tgt := 31) hx hb dX12_isPlace_27 (by decide) ?_
      have hP9 := hP.sub (ws' := []) [] rfl
      have hD9 := hD.sub (ws' := []) [] (by decide) rfl
      exact W.zret (v := 1) hx hb hr (by decide) (fun t ht hW => ⟨⟨_, _, rfl, rfl, (Or.inr (⟨⟨c_3, c_10⟩, rfl, by rw [ht]; exact hP9, hD9⟩))⟩, hS.F ht⟩) hS.2.2 dX12_isPlace_31
set_option maxHeartbeats 4000000 in
set_option maxRecDepth 100000 in
theorem xcX12_isWrong (l : Launch) (hst : l.stackTraces = false) (dC : Nat → ClassId) (dI : Nat → Nat → Nat) (T : Nat → ClassId) (a1 : Nat) (a2 : Nat) (a3 : Nat) (a4 : Nat) (sz : Nat) : Met l yX12_isWrong wsX12_isWrong ({ frames := 0, cells := 0, slots := 0, locals := 0 } : Room) (va_Pc [.ref a1, .int 1] (fun U => xB dC dI T [(a1, .inr (17, [.int 0, .ref a2, .ref a3, .ref a4, .long 0]))] sz U)) (va_Qi (fun (r u : Int32) => r = u) (fun (u : Int32) (t : State) => 1 = u ∧ xE dC dI [(a1, .inr (17, [.int 1, .ref a2, .ref a3, .ref a4, .long 0]))] (va_A [(a1, .inr (17, [.int 0, .ref a2, .ref a3, .ref a4, .long 0]))] sz) t) (va_A [(a1, .inr (17, [.int 0, .ref a2, .ref a3, .ref a4, .long 0]))] sz)) 0 0 (va_A [(a1, .inr (17, [.int 0, .ref a2, .ref a3, .ref a4, .long 0]))] sz) := by
  refine Met.ofW (cc := cX12_isWrong) (maxL := 2) (ret := (some .boolean)) (by decide +kernel) rfl ?_
  intro p e s m args below meth c s₁ B hml hv
  obtain ⟨rfl, hsz, hP, hK, hD0, hG⟩ := hv
  have hx := B.exec
  have hb := B.bytes
  have hr := B.returns
  have hts := atoms_spec (ws := wsX12_isWrong) B.pre
  have hown : s.vm.findClass RX12 = some m.cls := findClass_of_methodNamed B.named
  have hlocks := B.notSynchronized
  have hin_X12 : ∀ w ∈ wsX120, w ∈ wsX12_isWrong := by decide +kernel
  subst hsz
  have hD := hD0.self (sz := s.heap.size)
  generalize hAe : va_A [(a1, .inr (17, [.int 0, .ref a2, .ref a3, .ref a4, .long 0]))] s.heap.size = A at hD hG ⊢
  have hA : ∀ q : Nat, s.heap.size ≤ q → A q := fun q h => by rw [← hAe]; exact Or.inr h
  have hS : va_S A s.heap s.heap [] := va_S.rf
  have hl := lv_entry ([.ref a1, .int 1]) (n := 2) (Nat.le_of_ble_eq_true rfl)
  rw [lg_entry_eq]
  generalize (lg_sl ([.ref a1, .int 1]) ++ List.replicate (2 - (lg_sl ([.ref a1, .int 1])).length) Slot.unset).toArray = ls at hl ⊢
  have hl : lv_has ls 2 [(0, .ref a1), (1, .int 1)] := hl
  refine lv_aload_n hx hb dX12_isWrong_0 rfl (lv_at hl 0 rfl) ?_
  refine lv_iload_n hx hb dX12_isWrong_1 rfl (lv_at hl 1 rfl) ?_
  refine va_put (D := (dC, dI)) (ci := 17) (v := .int 1) (ty := .int) (C := RX12) (T := TX12) (N := 5) hx hb hts hin_X12 tyX12 tyX12_ok nmX12 hown hK hP hD hS 0 rfl rfl 0 (by decide) (hts (.fieldLink RX12 25 "NearestwardModel" "thrown" "I") (by decide +kernel)) (fun _ h9 => h9) rfl (by decide +kernel) rfl rfl (Nat.le_of_ble_eq_true rfl) dX12_isWrong_2 (fun H locs hP hD hS => ?_)
  have hP : va_P (dC, dI) vwCl [(a1, .inr (17, [.int 1, .ref a2, .ref a3, .ref a4, .long 0]))] H := hP
  have hD : va_D A [(a1, .inr (17, [.int 1, .ref a2, .ref a3, .ref a4, .long 0]))] := hD
  refine lv_iload_n hx hb dX12_isWrong_5 rfl (lv_at hl 1 rfl) ?_
  refine lv_if_le (tgt := 13) hx hb dX12_isWrong_6 (by decide) (fun c_1 => absurd c_1 (by decide)) (fun c_1 => ?_)
  refine lv_iconst (v := 1) hx hb dX12_isWrong_9 (by decide) ?_
  refine lv_goto (tgt := 14) hx hb dX12_isWrong_10 (by decide) ?_
  have hP9 := hP.sub (ws' := [(a1, .inr (17, [.int 1, .ref a2, .ref a3, .ref a4, .long 0]))]) [0] rfl
  have hD9 := hD.sub (ws' := [(a1, .inr (17, [.int 1, .ref a2, .ref a3, .ref a4, .long 0]))]) [0] (by decide) rfl
  exact W.zret (v := 1) hx hb hr (by decide) (fun t ht hW => ⟨⟨_, _, rfl, rfl, ⟨rfl, by rw [ht]; exact hP9, hD9⟩⟩, hS.F ht⟩) hS.2.2 dX12_isWrong_14
set_option maxHeartbeats 4000000 in
set_option maxRecDepth 100000 in
theorem xcX12_at (l : Launch) (hst : l.stackTraces = false) (dC : Nat → ClassId) (dI : Nat → Nat → Nat) (T : Nat → ClassId) (a1 : Nat) (a2 : Nat) (a3 : Nat) (a4 : Nat) (sz : Nat) (p1 : Int32) (p2 : Int32) : Met l yX12_at wsX12_at ({ frames := 0, cells := 0, slots := 0, locals := 0 } : Room) (va_Pc [.ref a1, .int p1, .int p2] (fun U => xB dC dI T [(a1, .inr (17, [.int 0, .ref a2, .ref a3, .ref a4, .long 0])), (a2, .inl (T 2, 12, .inr (.inr (.inr (.inr (fun _ => none))))))] sz U)) (va_Qi (fun (r u : Int32) => r = u) (fun (u : Int32) (t : State) => (-1) = u ∧ xE dC dI [(a1, .inr (17, [.int 0, .ref a2, .ref a3, .ref a4, .long 0])), (a2, .inl (T 2, 12, .inr (.inr (.inr (.inr (fun _ => none))))))] (va_A [(a1, .inr (17, [.int 0, .ref a2, .ref a3, .ref a4, .long 0])), (a2, .inl (T 2, 12, .inr (.inr (.inr (.inr (fun _ => none))))))] sz) t) (va_A [(a1, .inr (17, [.int 0, .ref a2, .ref a3, .ref a4, .long 0])), (a2, .inl (T 2, 12, .inr (.inr (.inr (.inr (fun _ => none))))))] sz)) 0 0 (va_A [(a1, .inr (17, [.int 0, .ref a2, .ref a3, .ref a4, .long 0])), (a2, .inl (T 2, 12, .inr (.inr (.inr (.inr (fun _ => none))))))] sz) := by
  refine Met.ofW (cc := cX12_at) (maxL := 5) (ret := (some .int)) (by decide +kernel) rfl ?_
  intro p e s m args below meth c s₁ B hml hv
  obtain ⟨rfl, hsz, hP, hK, hD0, hG⟩ := hv
  have hx := B.exec
  have hb := B.bytes
  have hr := B.returns
  have hts := atoms_spec (ws := wsX12_at) B.pre
  have hown : s.vm.findClass RX12 = some m.cls := findClass_of_methodNamed B.named
  have hlocks := B.notSynchronized
  have hin_X12 : ∀ w ∈ wsX120, w ∈ wsX12_at := by decide +kernel
  subst hsz
  have hD := hD0.self (sz := s.heap.size)
  generalize hAe : va_A [(a1, .inr (17, [.int 0, .ref a2, .ref a3, .ref a4, .long 0])), (a2, .inl (T 2, 12, .inr (.inr (.inr (.inr (fun _ => none))))))] s.heap.size = A at hD hG ⊢
  have hA : ∀ q : Nat, s.heap.size ≤ q → A q := fun q h => by rw [← hAe]; exact Or.inr h
  have hS : va_S A s.heap s.heap [] := va_S.rf
  have hl := lv_entry ([.ref a1, .int p1, .int p2]) (n := 5) (Nat.le_of_ble_eq_true rfl)
  rw [lg_entry_eq]
  generalize (lg_sl ([.ref a1, .int p1, .int p2]) ++ List.replicate (5 - (lg_sl ([.ref a1, .int p1, .int p2])).length) Slot.unset).toArray = ls at hl ⊢
  have hl : lv_has ls 5 [(0, .ref a1), (1, .int p1), (2, .int p2)] := hl
  refine lv_iconst (v := (-1)) hx hb dX12_at_0 (by decide) ?_
  refine lv_istore_n (lv' := [(3, .int (-1)), (0, .ref a1), (1, .int p1), (2, .int p2)]) hx hb dX12_at_1 rfl hl (by decide) rfl (fun ls hl => ?_)
  refine lv_iconst (v := 0) hx hb dX12_at_2 (by decide) ?_
  refine lv_istore (lv' := [(4, .int 0), (3, .int (-1)), (0, .ref a1), (1, .int p1), (2, .int p2)]) hx hb dX12_at_3 hl (by decide) rfl (fun ls hl => ?_)
  refine xLoop (P := fun i_k_1 H locs ls => va_P (dC, dI) vwCl [(a1, .inr (17, [.int 0, .ref a2, .ref a3, .ref a4, .long 0])), (a2, .inl (T 2, 12, .inr (.inr (.inr (.inr (fun _ => none))))))] H ∧ va_D A [(a1, .inr (17, [.int 0, .ref a2, .ref a3, .ref a4, .long 0])), (a2, .inl (T 2, 12, .inr (.inr (.inr (.inr (fun _ => none))))))] ∧ va_S A s.heap H locs ∧ lv_has ls 5 [(4, .int (nI i_k_1)), (3, .int (-1)), (0, .ref a1), (1, .int p1), (2, .int p2)]) (N := 12) (fun i_k_1 H locs ls hi_k_1 hI ih_k_1 => ?_) (0) _ _ _ (by omega) ⟨hP, hD, hS, lv_sub hl [0, 1, 2, 3, 4] rfl⟩
  obtain ⟨hP, hD, hS, hl⟩ := hI
  refine lv_iload hx hb dX12_at_5 (lv_at hl 0 rfl) ?_
  refine lv_bipush (v := 12) hx hb dX12_at_7 (by decide) ?_
  have hz_3 : (nI i_k_1).toInt = ((i_k_1 : Nat) : Int) := nI_toInt (by omega)
  refine lv_icmp_ge (tgt := 61) hx hb dX12_at_9 (by decide) (fun c_2 => ?_) (fun c_2 => ?_)
  · have nc_2 : 12 ≤ (nI i_k_1).toInt := (xi_le (by decide +kernel) rfl).mp c_2
    refine lv_iload_n hx hb dX12_at_61 rfl (lv_at hl 1 rfl) ?_
    have hP9 := hP.sub (ws' := [(a1, .inr (17, [.int 0, .ref a2, .ref a3, .ref a4, .long 0])), (a2, .inl (T 2, 12, .inr (.inr (.inr (.inr (fun _ => none))))))]) [0, 1] rfl
    have hD9 := hD.sub (ws' := [(a1, .inr (17, [.int 0, .ref a2, .ref a3, .ref a4, .long 0])), (a2, .inl (T 2, 12, .inr (.inr (.inr (.inr (fun _ => none))))))]) [0, 1] (by decide) rfl
    exact W.iret (v := (-1)) hx hb hr (fun t ht hW => ⟨⟨_, _, rfl, rfl, ⟨rfl, by rw [ht]; exact hP9, hD9⟩⟩, hS.F ht⟩) hS.2.2 dX12_at_62
  · have nc_2 : ¬ (12 ≤ (nI i_k_1).toInt) := mt (xi_le (by decide +kernel) rfl).mpr c_2
    refine lv_aload_n hx hb dX12_at_12 rfl (lv_at hl 2 rfl) ?_
    refine va_get (D := (dC, dI)) (ci := 17) (v := .ref a2) (C := RX12) (T := TX12) (N := 5) hx hb hts hin_X12 hown hK hP 0 rfl rfl 1 (by decide) (hts (.fieldLink RX12 11 "NearestwardModel" "points" "[[I") (by decide +kernel)) (fun _ h9 => h9) rfl dX12_at_13 ?_
    refine lv_iload hx hb dX12_at_16 (lv_at hl 0 rfl) ?_
    refine xAldq hx hb hK hP 1 2 rfl rfl (vp_in_nI (by omega) (by decide)) dX12_at_18 ?_
    refine lv_ifnullN (tgt := 53) hx hb dX12_at_19 (by decide) ?_
    refine lv_iload_n hx hb dX12_at_53 rfl (lv_at hl 1 rfl) ?_
    refine lv_istore_n (lv' := [(3, .int (-1)), (4, .int (nI i_k_1)), (0, .ref a1), (1, .int p1), (2, .int p2)]) hx hb dX12_at_54 rfl hl (by decide) rfl (fun ls hl => ?_)
    refine lv_iinc (v := (nI (i_k_1 + 1))) (lv' := [(4, .int (nI (i_k_1 + 1))), (3, .int (-1)), (0, .ref a1), (1, .int p1), (2, .int p2)]) hx hb dX12_at_55 hl (k := 1) rfl (nI_1 _) (by decide) rfl (fun ls hl => ?_)
    refine lv_goto (tgt := 5) hx hb dX12_at_58 (by decide) ?_
    exact ih_k_1 _ _ _ (by omega) ⟨hP, hD, hS, lv_sub hl [0, 1, 2, 3, 4] rfl⟩
set_option maxHeartbeats 4000000 in
set_option maxRecDepth 100000 in
theorem xcX12_many (l : Launch) (hst : l.stackTraces = false) (dC : Nat → ClassId) (dI : Nat → Nat → Nat) (T : Nat → ClassId) (a1 : Nat) (a2 : Nat) (a3 : Nat) (a4 : Nat) (sz : Nat) : Met l yX12_many wsX12_many ({ frames := 0, cells := 0, slots := 0, locals := 0 } : Room) (va_Pc [.ref a1] (fun U => xB dC dI T [(a1, .inr (17, [.int 0, .ref a2, .ref a3, .ref a4, .long 0])), (a2, .inl (T 2, 12, .inr (.inr (.inr (.inr (fun _ => none))))))] sz U)) (va_Qi (fun (r u : Int32) => r = u) (fun (u : Int32) (t : State) => 0 = u ∧ xE dC dI [(a1, .inr (17, [.int 0, .ref a2, .ref a3, .ref a4, .long 0])), (a2, .inl (T 2, 12, .inr (.inr (.inr (.inr (fun _ => none))))))] (va_A [(a1, .inr (17, [.int 0, .ref a2, .ref a3, .ref a4, .long 0])), (a2, .inl (T 2, 12, .inr (.inr (.inr (.inr (fun _ => none))))))] sz) t) (va_A [(a1, .inr (17, [.int 0, .ref a2, .ref a3, .ref a4, .long 0])), (a2, .inl (T 2, 12, .inr (.inr (.inr (.inr (fun _ => none))))))] sz)) 0 0 (va_A [(a1, .inr (17, [.int 0, .ref a2, .ref a3, .ref a4, .long 0])), (a2, .inl (T 2, 12, .inr (.inr (.inr (.inr (fun _ => none))))))] sz) := by
  refine Met.ofW (cc := cX12_many) (maxL := 6) (ret := (some .int)) (by decide +kernel) rfl ?_
  intro p e s m args below meth c s₁ B hml hv
  obtain ⟨rfl, hsz, hP, hK, hD0, hG⟩ := hv
  have hx := B.exec
  have hb := B.bytes
  have hr := B.returns
  have hts := atoms_spec (ws := wsX12_many) B.pre
  have hown : s.vm.findClass RX12 = some m.cls := findClass_of_methodNamed B.named
  have hlocks := B.notSynchronized
  have hin_X12 : ∀ w ∈ wsX120, w ∈ wsX12_many := by decide +kernel
  subst hsz
  have hD := hD0.self (sz := s.heap.size)
  generalize hAe : va_A [(a1, .inr (17, [.int 0, .ref a2, .ref a3, .ref a4, .long 0])), (a2, .inl (T 2, 12, .inr (.inr (.inr (.inr (fun _ => none))))))] s.heap.size = A at hD hG ⊢
  have hA : ∀ q : Nat, s.heap.size ≤ q → A q := fun q h => by rw [← hAe]; exact Or.inr h
  have hS : va_S A s.heap s.heap [] := va_S.rf
  have hl := lv_entry ([.ref a1]) (n := 6) (Nat.le_of_ble_eq_true rfl)
  rw [lg_entry_eq]
  generalize (lg_sl ([.ref a1]) ++ List.replicate (6 - (lg_sl ([.ref a1])).length) Slot.unset).toArray = ls at hl ⊢
  have hl : lv_has ls 6 [(0, .ref a1)] := hl
  refine lv_iconst (v := 0) hx hb dX12_many_0 (by decide) ?_
  refine lv_istore_n (lv' := [(1, .int 0), (0, .ref a1)]) hx hb dX12_many_1 rfl hl (by decide) rfl (fun ls hl => ?_)
  refine lv_aload_n hx hb dX12_many_2 rfl (lv_at hl 1 rfl) ?_
  refine va_get (D := (dC, dI)) (ci := 17) (v := .ref a2) (C := RX12) (T := TX12) (N := 5) hx hb hts hin_X12 hown hK hP 0 rfl rfl 1 (by decide) (hts (.fieldLink RX12 11 "NearestwardModel" "points" "[[I") (by decide +kernel)) (fun _ h9 => h9) rfl dX12_many_3 ?_
  refine lv_astore_n (lv' := [(2, .ref a2), (1, .int 0), (0, .ref a1)]) hx hb dX12_many_6 rfl hl (by decide) rfl (fun ls hl => ?_)
  refine lv_aload_n hx hb dX12_many_7 rfl (lv_at hl 0 rfl) ?_
  refine va_alen (v := 12) hx hb hK hP 1 2 rfl rfl (by decide) dX12_many_8 ?_
  refine lv_istore_n (lv' := [(3, .int 12), (2, .ref a2), (1, .int 0), (0, .ref a1)]) hx hb dX12_many_9 rfl hl (by decide) rfl (fun ls hl => ?_)
  refine lv_iconst (v := 0) hx hb dX12_many_10 (by decide) ?_
  refine lv_istore (lv' := [(4, .int 0), (3, .int 12), (2, .ref a2), (1, .int 0), (0, .ref a1)]) hx hb dX12_many_11 hl (by decide) rfl (fun ls hl => ?_)
  refine xLoop (P := fun i_k_1 H locs ls => va_P (dC, dI) vwCl [(a1, .inr (17, [.int 0, .ref a2, .ref a3, .ref a4, .long 0])), (a2, .inl (T 2, 12, .inr (.inr (.inr (.inr (fun _ => none))))))] H ∧ va_D A [(a1, .inr (17, [.int 0, .ref a2, .ref a3, .ref a4, .long 0])), (a2, .inl (T 2, 12, .inr (.inr (.inr (.inr (fun _ => none))))))] ∧ va_S A s.heap H locs ∧ lv_has ls 6 [(4, .int (nI i_k_1)), (3, .int 12), (2, .ref a2), (1, .int 0)]) (N := 12) (fun i_k_1 H locs ls hi_k_1 hI ih_k_1 => ?_) (0) _ _ _ (by omega) ⟨hP, hD, hS, lv_sub hl [0, 1, 2, 3] rfl⟩
  obtain ⟨hP, hD, hS, hl⟩ := hI
  refine lv_iload hx hb dX12_many_13 (lv_at hl 0 rfl) ?_
  refine lv_iload_n hx hb dX12_many_15 rfl (lv_at hl 1 rfl) ?_
  have hz_3 : (nI i_k_1).toInt = ((i_k_1 : Nat) : Int) := nI_toInt (by omega)
  refine lv_icmp_ge (tgt := 44) hx hb dX12_many_16 (by decide) (fun c_2 => ?_) (fun c_2 => ?_)
  · have nc_2 : 12 ≤ (nI i_k_1).toInt := (xi_le (by decide +kernel) rfl).mp c_2
    refine lv_iload_n hx hb dX12_many_44 rfl (lv_at hl 3 rfl) ?_
    have hP9 := hP.sub (ws' := [(a1, .inr (17, [.int 0, .ref a2, .ref a3, .ref a4, .long 0])), (a2, .inl (T 2, 12, .inr (.inr (.inr (.inr (fun _ => none))))))]) [0, 1] rfl
    have hD9 := hD.sub (ws' := [(a1, .inr (17, [.int 0, .ref a2, .ref a3, .ref a4, .long 0])), (a2, .inl (T 2, 12, .inr (.inr (.inr (.inr (fun _ => none))))))]) [0, 1] (by decide) rfl
    exact W.iret (v := 0) hx hb hr (fun t ht hW => ⟨⟨_, _, rfl, rfl, ⟨rfl, by rw [ht]; exact hP9, hD9⟩⟩, hS.F ht⟩) hS.2.2 dX12_many_45
  · have nc_2 : ¬ (12 ≤ (nI i_k_1).toInt) := mt (xi_le (by decide +kernel) rfl).mpr c_2
    refine lv_aload_n hx hb dX12_many_19 rfl (lv_at hl 2 rfl) ?_
    refine lv_iload hx hb dX12_many_20 (lv_at hl 0 rfl) ?_
    refine xAldq hx hb hK hP 1 2 rfl rfl (vp_in_nI (by omega) (by decide)) dX12_many_22 ?_
    refine lv_astoreN (lv' := [(5, .null), (4, .int (nI i_k_1)), (3, .int 12), (2, .ref a2), (1, .int 0)]) hx hb dX12_many_23 hl (by decide) rfl (fun ls hl => ?_)
    refine lv_iload_n hx hb dX12_many_25 rfl (lv_at hl 4 rfl) ?_
    refine lv_aloadN hx hb dX12_many_26 (lv_at hl 0 rfl) ?_
    refine lv_ifnonnullN hx hb dX12_many_28 ?_
    refine lv_iconst (v := 0) hx hb dX12_many_31 (by decide) ?_
    refine lv_goto (tgt := 36) hx hb dX12_many_32 (by decide) ?_
    refine lv_iadd hx hb dX12_many_36 ?_
    refine lv_topi (fun f_4 ef_4 => ?_)
    obtain rfl : f_4 = 0 := ef_4.trans (by decide)
    refine lv_istore_n (lv' := [(1, .int 0), (5, .null), (4, .int (nI i_k_1)), (3, .int 12), (2, .ref a2)]) hx hb dX12_many_37 rfl hl (by decide) rfl (fun ls hl => ?_)
    refine lv_iinc (v := (nI (i_k_1 + 1))) (lv' := [(4, .int (nI (i_k_1 + 1))), (1, .int 0), (5, .null), (3, .int 12), (2, .ref a2)]) hx hb dX12_many_38 hl (k := 2) rfl (nI_1 _) (by decide) rfl (fun ls hl => ?_)
    refine lv_goto (tgt := 13) hx hb dX12_many_41 (by decide) ?_
    exact ih_k_1 _ _ _ (by omega) ⟨hP, hD, hS, lv_sub hl [0, 3, 4, 1] rfl⟩
set_option maxHeartbeats 4000000 in
set_option maxRecDepth 100000 in
theorem xcX12_isWrong_v2 (l : Launch) (hst : l.stackTraces = false) (dC : Nat → ClassId) (dI : Nat → Nat → Nat) (T : Nat → ClassId) (a1 : Nat) (a2 : Nat) (a3 : Nat) (a4 : Nat) (sz : Nat) : Met l yX12_isWrong wsX12_isWrong ({ frames := 0, cells := 0, slots := 0, locals := 0 } : Room) (va_Pc [.ref a1, .int 0] (fun U => xB dC dI T [(a1, .inr (17, [.int 0, .ref a2, .ref a3, .ref a4, .long 0]))] sz U)) (va_Qi (fun (r u : Int32) => r = u) (fun (u : Int32) (t : State) => 0 = u ∧ xE dC dI [(a1, .inr (17, [.int 0, .ref a2, .ref a3, .ref a4, .long 0]))] (va_A [(a1, .inr (17, [.int 0, .ref a2, .ref a3, .ref a4, .long 0]))] sz) t) (va_A [(a1, .inr (17, [.int 0, .ref a2, .ref a3, .ref a4, .long 0]))] sz)) 0 0 (va_A [(a1, .inr (17, [.int 0, .ref a2, .ref a3, .ref a4, .long 0]))] sz) := by
  refine Met.ofW (cc := cX12_isWrong) (maxL := 2) (ret := (some .boolean)) (by decide +kernel) rfl ?_
  intro p e s m args below meth c s₁ B hml hv
  obtain ⟨rfl, hsz, hP, hK, hD0, hG⟩ := hv
  have hx := B.exec
  have hb := B.bytes
  have hr := B.returns
  have hts := atoms_spec (ws := wsX12_isWrong) B.pre
  have hown : s.vm.findClass RX12 = some m.cls := findClass_of_methodNamed B.named
  have hlocks := B.notSynchronized
  have hin_X12 : ∀ w ∈ wsX120, w ∈ wsX12_isWrong := by decide +kernel
  subst hsz
  have hD := hD0.self (sz := s.heap.size)
  generalize hAe : va_A [(a1, .inr (17, [.int 0, .ref a2, .ref a3, .ref a4, .long 0]))] s.heap.size = A at hD hG ⊢
  have hA : ∀ q : Nat, s.heap.size ≤ q → A q := fun q h => by rw [← hAe]; exact Or.inr h
  have hS : va_S A s.heap s.heap [] := va_S.rf
  have hl := lv_entry ([.ref a1, .int 0]) (n := 2) (Nat.le_of_ble_eq_true rfl)
  rw [lg_entry_eq]
  generalize (lg_sl ([.ref a1, .int 0]) ++ List.replicate (2 - (lg_sl ([.ref a1, .int 0])).length) Slot.unset).toArray = ls at hl ⊢
  have hl : lv_has ls 2 [(0, .ref a1), (1, .int 0)] := hl
  refine lv_aload_n hx hb dX12_isWrong_0 rfl (lv_at hl 0 rfl) ?_
  refine lv_iload_n hx hb dX12_isWrong_1 rfl (lv_at hl 1 rfl) ?_
  refine va_put (D := (dC, dI)) (ci := 17) (v := .int 0) (ty := .int) (C := RX12) (T := TX12) (N := 5) hx hb hts hin_X12 tyX12 tyX12_ok nmX12 hown hK hP hD hS 0 rfl rfl 0 (by decide) (hts (.fieldLink RX12 25 "NearestwardModel" "thrown" "I") (by decide +kernel)) (fun _ h9 => h9) rfl (by decide +kernel) rfl rfl (Nat.le_of_ble_eq_true rfl) dX12_isWrong_2 (fun H locs hP hD hS => ?_)
  have hP : va_P (dC, dI) vwCl [(a1, .inr (17, [.int 0, .ref a2, .ref a3, .ref a4, .long 0]))] H := hP
  have hD : va_D A [(a1, .inr (17, [.int 0, .ref a2, .ref a3, .ref a4, .long 0]))] := hD
  refine lv_iload_n hx hb dX12_isWrong_5 rfl (lv_at hl 1 rfl) ?_
  refine lv_if_le (tgt := 13) hx hb dX12_isWrong_6 (by decide) (fun c_1 => ?_) (fun c_1 => absurd (by decide) c_1)
  refine lv_iconst (v := 0) hx hb dX12_isWrong_13 (by decide) ?_
  have hP9 := hP.sub (ws' := [(a1, .inr (17, [.int 0, .ref a2, .ref a3, .ref a4, .long 0]))]) [0] rfl
  have hD9 := hD.sub (ws' := [(a1, .inr (17, [.int 0, .ref a2, .ref a3, .ref a4, .long 0]))]) [0] (by decide) rfl
  exact W.zret (v := 0) hx hb hr (by decide) (fun t ht hW => ⟨⟨_, _, rfl, rfl, ⟨rfl, by rw [ht]; exact hP9, hD9⟩⟩, hS.F ht⟩) hS.2.2 dX12_isWrong_14
set_option maxHeartbeats 4000000 in
set_option maxRecDepth 100000 in
theorem xcX12_copy (l : Launch) (hst : l.stackTraces = false) (dC : Nat → ClassId) (dI : Nat → Nat → Nat) (T : Nat → ClassId) (a1 : Nat) (sz : Nat) : Met l yX12_copy wsX12_copy ({ frames := 0, cells := 1, slots := 12, locals := 0 } : Room) (va_Pc [.ref a1] (fun U => xB dC dI T [(a1, .inl (T 2, 12, .inr (.inr (.inr (.inr (fun _ => none))))))] sz U)) (va_Qr (fun _ : Unit => True) (fun (_ : Unit) (ra : Nat) (t : State) => ∃ (q_1 : Nat), q_1 = ra ∧ xE dC dI [(a1, .inl (T 2, 12, .inr (.inr (.inr (.inr (fun _ => none)))))), (q_1, .inl (T 2, 12, .inr (.inr (.inr (.inr (fun _ => none))))))] (va_A [(a1, .inl (T 2, 12, .inr (.inr (.inr (.inr (fun _ => none))))))] sz) t) (va_A [(a1, .inl (T 2, 12, .inr (.inr (.inr (.inr (fun _ => none))))))] sz)) 1 12 (va_A [(a1, .inl (T 2, 12, .inr (.inr (.inr (.inr (fun _ => none))))))] sz) := by
  refine Met.ofW (cc := cX12_copy) (maxL := 3) (ret := (some (.array (.array .int)))) (by decide +kernel) rfl ?_
  intro p e s m args below meth c s₁ B hml hv
  obtain ⟨rfl, hsz, hP, hK, hD0, hG⟩ := hv
  have hx := B.exec
  have hb := B.bytes
  have hr := B.returns
  have hts := atoms_spec (ws := wsX12_copy) B.pre
  have hown : s.vm.findClass RX12 = some m.cls := findClass_of_methodNamed B.named
  have hlocks := B.notSynchronized
  subst hsz
  have hD := hD0.self (sz := s.heap.size)
  generalize hAe : va_A [(a1, .inl (T 2, 12, .inr (.inr (.inr (.inr (fun _ => none))))))] s.heap.size = A at hD hG ⊢
  have hA : ∀ q : Nat, s.heap.size ≤ q → A q := fun q h => by rw [← hAe]; exact Or.inr h
  have hS : va_S A s.heap s.heap [] := va_S.rf
  have hl := lv_entry ([.ref a1]) (n := 3) (Nat.le_of_ble_eq_true rfl)
  rw [lg_entry_eq]
  generalize (lg_sl ([.ref a1]) ++ List.replicate (3 - (lg_sl ([.ref a1])).length) Slot.unset).toArray = ls at hl ⊢
  have hl : lv_has ls 3 [(0, .ref a1)] := hl
  refine lv_bipush (v := 12) hx hb dX12_copy_0 (by decide) ?_
  refine xNewA (t := .int) (cT := T 2) (N' := 12) 2 rfl hx hb hown (by have h9 := hts (.classLink RX12 9 "[I") (by decide +kernel); rwa [show (FieldType.array .int).toString = "[I" from by decide +kernel]) hG.2.2.2.2.2.2.2.2.1 hK hP hD hS hA (by decide) (by decide) (Nat.le_of_ble_eq_true rfl) (Nat.le_of_ble_eq_true rfl) (Nat.le_of_ble_eq_true rfl) dX12_copy_2 (fun q_1 H hP hD hS => ?_)
  have hP : va_P (dC, dI) vwCl [(a1, .inl (T 2, 12, .inr (.inr (.inr (.inr (fun _ => none)))))), (q_1, .inl (T 2, 12, .inr (.inr (.inr (.inr (fun _ => none))))))] H := hP
  have hD : va_D A [(a1, .inl (T 2, 12, .inr (.inr (.inr (.inr (fun _ => none)))))), (q_1, .inl (T 2, 12, .inr (.inr (.inr (.inr (fun _ => none))))))] := hD
  refine W.widen (k := 1) (n := 12) (by omega) (by omega) ?_
  refine lv_astore_n (lv' := [(1, .ref q_1), (0, .ref a1)]) hx hb dX12_copy_5 rfl hl (by decide) rfl (fun ls hl => ?_)
  refine lv_iconst (v := 0) hx hb dX12_copy_6 (by decide) ?_
  refine lv_istore_n (lv' := [(2, .int 0), (1, .ref q_1), (0, .ref a1)]) hx hb dX12_copy_7 rfl hl (by decide) rfl (fun ls hl => ?_)
  refine xLoop (P := fun i_k_2 H locs ls => va_P (dC, dI) vwCl [(a1, .inl (T 2, 12, .inr (.inr (.inr (.inr (fun _ => none)))))), (q_1, .inl (T 2, 12, .inr (.inr (.inr (.inr (fun _ => none))))))] H ∧ va_D A [(a1, .inl (T 2, 12, .inr (.inr (.inr (.inr (fun _ => none)))))), (q_1, .inl (T 2, 12, .inr (.inr (.inr (.inr (fun _ => none))))))] ∧ va_S A s.heap H locs ∧ lv_has ls 3 [(2, .int (nI i_k_2)), (1, .ref q_1), (0, .ref a1)]) (N := 12) (fun i_k_2 H locs ls hi_k_2 hI ih_k_2 => ?_) (0) _ _ _ (by omega) ⟨hP, hD, hS, lv_sub hl [0, 1, 2] rfl⟩
  obtain ⟨hP, hD, hS, hl⟩ := hI
  refine lv_iload_n hx hb dX12_copy_8 rfl (lv_at hl 0 rfl) ?_
  refine lv_bipush (v := 12) hx hb dX12_copy_9 (by decide) ?_
  have hz_4 : (nI i_k_2).toInt = ((i_k_2 : Nat) : Int) := nI_toInt (by omega)
  refine lv_icmp_ge (tgt := 42) hx hb dX12_copy_11 (by decide) (fun c_3 => ?_) (fun c_3 => ?_)
  · have nc_3 : 12 ≤ (nI i_k_2).toInt := (xi_le (by decide +kernel) rfl).mp c_3
    refine lv_aload_n hx hb dX12_copy_42 rfl (lv_at hl 1 rfl) ?_
    have hP9 := hP.sub (ws' := [(a1, .inl (T 2, 12, .inr (.inr (.inr (.inr (fun _ => none)))))), (q_1, .inl (T 2, 12, .inr (.inr (.inr (.inr (fun _ => none))))))]) [0, 1] rfl
    have hD9 := hD.sub (ws' := [(a1, .inl (T 2, 12, .inr (.inr (.inr (.inr (fun _ => none)))))), (q_1, .inl (T 2, 12, .inr (.inr (.inr (.inr (fun _ => none))))))]) [0, 1] (by decide) rfl
    exact W.aret (v := .ref q_1) hx hb hr (Or.inr ⟨_, rfl⟩) (Or.inr ⟨_, rfl⟩) (fun t ht hW => ⟨⟨(), _, rfl, trivial, ⟨q_1, rfl, by rw [ht]; exact hP9, hD9⟩⟩, hS.F ht⟩) hS.2.2 dX12_copy_43
  · have nc_3 : ¬ (12 ≤ (nI i_k_2).toInt) := mt (xi_le (by decide +kernel) rfl).mpr c_3
    refine lv_aload_n hx hb dX12_copy_14 rfl (lv_at hl 1 rfl) ?_
    refine lv_iload_n hx hb dX12_copy_15 rfl (lv_at hl 0 rfl) ?_
    refine lv_aload_n hx hb dX12_copy_16 rfl (lv_at hl 2 rfl) ?_
    refine lv_iload_n hx hb dX12_copy_17 rfl (lv_at hl 0 rfl) ?_
    refine xAldq hx hb hK hP 0 2 rfl rfl (vp_in_nI (by omega) (by decide)) dX12_copy_18 ?_
    refine lv_ifnonnullN hx hb dX12_copy_19 ?_
    refine lv_null hx hb dX12_copy_22 ?_
    refine lv_goto (tgt := 35) hx hb dX12_copy_23 (by decide) ?_
    refine xAstN hx hb hK hP hD hS 1 2 rfl rfl (vp_in_nI (by omega) (by decide)) dX12_copy_35 (fun H locs hP hD hS => ?_)
    have hP : va_P (dC, dI) vwCl [(a1, .inl (T 2, 12, .inr (.inr (.inr (.inr (fun _ => none)))))), (q_1, .inl (T 2, 12, .inr (.inr (.inr (.inr (fun _ => none))))))] H := by have h9 : va_P (dC, dI) vwCl [(a1, .inl (T 2, 12, .inr (.inr (.inr (.inr (fun _ => none)))))), (q_1, .inl (T 2, 12, .inr (.inr (.inr (.inr (va_up (fun _ => none) ((nI i_k_2) : Int32).toNatClampNeg none))))))] H := hP; rw [xUpN] at h9; exact h9
    have hD : va_D A [(a1, .inl (T 2, 12, .inr (.inr (.inr (.inr (fun _ => none)))))), (q_1, .inl (T 2, 12, .inr (.inr (.inr (.inr (fun _ => none))))))] := by have h9 : va_D A [(a1, .inl (T 2, 12, .inr (.inr (.inr (.inr (fun _ => none)))))), (q_1, .inl (T 2, 12, .inr (.inr (.inr (.inr (va_up (fun _ => none) ((nI i_k_2) : Int32).toNatClampNeg none))))))] := hD; rw [xUpN] at h9; exact h9
    refine lv_iinc (v := (nI (i_k_2 + 1))) (lv' := [(2, .int (nI (i_k_2 + 1))), (1, .ref q_1), (0, .ref a1)]) hx hb dX12_copy_36 hl (k := 0) rfl (nI_1 _) (by decide) rfl (fun ls hl => ?_)
    refine lv_goto (tgt := 8) hx hb dX12_copy_39 (by decide) ?_
    exact ih_k_2 _ _ _ (by omega) ⟨hP, hD, hS, lv_sub hl [0, 1, 2] rfl⟩
set_option maxHeartbeats 4000000 in
set_option maxRecDepth 100000 in
theorem xcJx4a65c_grow_92f84 (l : Launch) (hst : l.stackTraces = false) (dC : Nat → ClassId) (dI : Nat → Nat → Nat) (T : Nat → ClassId) (a1 : Nat) (sz : Nat) : Met l yJx4a65c_grow_92f84 wsJx4a65c_grow_92f84 ({ frames := 1, cells := 1, slots := 10, locals := 14 } : Room) (va_Pc [.ref a1, .int 1] (fun U => xB dC dI T [(a1, .inr (4, [.int 1, .ref (dI 1000 0), .int 0]))] sz U)) (va_Qr (fun _ : Unit => True) (fun (_ : Unit) (ra : Nat) (t : State) => ∃ (q_3 : Nat), q_3 = ra ∧ xE dC dI [(a1, .inr (4, [.int 1, .ref q_3, .int 0])), (q_3, .inl (T 4, 10, .inr (.inr (.inr (.inr (fun _ => none))))))] (va_A [(a1, .inr (4, [.int 1, .ref (dI 1000 0), .int 0]))] sz) t) (va_A [(a1, .inr (4, [.int 1, .ref (dI 1000 0), .int 0]))] sz)) 1 10 (va_A [(a1, .inr (4, [.int 1, .ref (dI 1000 0), .int 0]))] sz) := by
  refine Met.ofW (cc := cJx4a65c_grow_92f84) (maxL := 4) (ret := (some (.array (.object "java/lang/Object")))) (by decide +kernel) rfl ?_
  intro p e s m args below meth c s₁ B hml hv
  obtain ⟨rfl, hsz, hP, hK, hD0, hG⟩ := hv
  have hx := B.exec
  have hb := B.bytes
  have hr := B.returns
  have hts := atoms_spec (ws := wsJx4a65c_grow_92f84) B.pre
  have hown : s.vm.findClass RJx4a65c = some m.cls := findClass_of_methodNamed B.named
  have hlocks := B.notSynchronized
  have hin_Jx4a65c : ∀ w ∈ wsJx4a65c0, w ∈ wsJx4a65c_grow_92f84 := by decide +kernel
  subst hsz
  have hD := hD0.self (sz := s.heap.size)
  generalize hAe : va_A [(a1, .inr (4, [.int 1, .ref (dI 1000 0), .int 0]))] s.heap.size = A at hD hG ⊢
  have hA : ∀ q : Nat, s.heap.size ≤ q → A q := fun q h => by rw [← hAe]; exact Or.inr h
  have hS : va_S A s.heap s.heap [] := va_S.rf
  have hl := lv_entry ([.ref a1, .int 1]) (n := 4) (Nat.le_of_ble_eq_true rfl)
  rw [lg_entry_eq]
  generalize (lg_sl ([.ref a1, .int 1]) ++ List.replicate (4 - (lg_sl ([.ref a1, .int 1])).length) Slot.unset).toArray = ls at hl ⊢
  have hl : lv_has ls 4 [(0, .ref a1), (1, .int 1)] := hl
  refine lv_aload_n hx hb dJx4a65c_grow_92f84_0 rfl (lv_at hl 0 rfl) ?_
  refine va_get (D := (dC, dI)) (ci := 4) (v := .ref (dI 1000 0)) (C := RJx4a65c) (T := TJx4a65c) (N := 3) hx hb hts hin_Jx4a65c hown hK hP 0 rfl rfl 1 (by decide) (hts (.fieldLink RJx4a65c 9 "java/util/ArrayList" "elementData" "[Ljava/lang/Object;") (by decide +kernel)) (fun _ h9 => h9) rfl dJx4a65c_grow_92f84_1 ?_
  refine va_tlen (v := 0) hx hb hG.2.2.2.2.2.2.2.2.2.2.2.2.2 hS (by decide) dJx4a65c_grow_92f84_4 ?_
  refine lv_istore_n (lv' := [(2, .int 0), (0, .ref a1), (1, .int 1)]) hx hb dJx4a65c_grow_92f84_5 rfl hl (by decide) rfl (fun ls hl => ?_)
  refine lv_iload_n hx hb dJx4a65c_grow_92f84_6 rfl (lv_at hl 0 rfl) ?_
  refine lv_if_gt (tgt := 20) hx hb dJx4a65c_grow_92f84_7 (by decide) (fun c_1 => absurd c_1 (by decide)) (fun c_1 => ?_)
  refine lv_aload_n hx hb dJx4a65c_grow_92f84_10 rfl (lv_at hl 1 rfl) ?_
  refine va_get (D := (dC, dI)) (ci := 4) (v := .ref (dI 1000 0)) (C := RJx4a65c) (T := TJx4a65c) (N := 3) hx hb hts hin_Jx4a65c hown hK hP 0 rfl rfl 1 (by decide) (hts (.fieldLink RJx4a65c 9 "java/util/ArrayList" "elementData" "[Ljava/lang/Object;") (by decide +kernel)) (fun _ h9 => h9) rfl dJx4a65c_grow_92f84_11 ?_
  refine va_gets hx hb hG.2.2.2.2.2.1 hS hown (hts (.fieldLink RJx4a65c 39 "java/util/ArrayList" "DEFAULTCAPACITY_EMPTY_ELEMENTDATA" "[Ljava/lang/Object;") (by decide +kernel)) (fun _ h9 => h9) dJx4a65c_grow_92f84_14 ?_
  refine lv_acmp_eq (rx := some (dI 1000 0)) (ry := some (dI 1000 0)) (tgt := 45) hx hb dJx4a65c_grow_92f84_17 (by decide) (fun _ => ?_) (fun h9 => absurd rfl h9)
  refine lv_aload_n hx hb dJx4a65c_grow_92f84_45 rfl (lv_at hl 1 rfl) ?_
  refine lv_bipush (v := 10) hx hb dJx4a65c_grow_92f84_46 (by decide) ?_
  refine lv_iload_n hx hb dJx4a65c_grow_92f84_48 rfl (lv_at hl 2 rfl) ?_
  refine va_mmax hx hb (by rw [hml]; exact hl.1.symm) hown (hts (.methodLink RJx4a65c 79 Lib.Math.max.name) (by decide +kernel)) (hts (.static Lib.Math.max.name) (by decide +kernel)) (hts (.initialized "java/lang/Math") (by decide +kernel)) (hts (.code Lib.Math.max.name Lib.Math.max.code 2 (some .int)) (by decide +kernel)) (Nat.le_of_ble_eq_true rfl) (Nat.le_of_ble_eq_true rfl) (Nat.le_of_ble_eq_true rfl) (Nat.le_of_ble_eq_true rfl) dJx4a65c_grow_92f84_49 ?_
  refine lv_topi (fun f_2 ef_2 => ?_)
  obtain rfl : f_2 = 10 := ef_2.trans (by decide)
  refine xNewq (C := "java/lang/Object") (cT := T 4) (N' := 10) 4 rfl hx hb hown (hts (.classLink RJx4a65c 7 "java/lang/Object") (by decide +kernel)) hG.2.2.2.2.2.2.2.1 hK hP hD hS hA (by decide) (by decide) (Nat.le_of_ble_eq_true rfl) (Nat.le_of_ble_eq_true rfl) (Nat.le_of_ble_eq_true rfl) dJx4a65c_grow_92f84_52 (fun q_3 H hP hD hS => ?_)
  have hP : va_P (dC, dI) vwCl [(a1, .inr (4, [.int 1, .ref (dI 1000 0), .int 0])), (q_3, .inl (T 4, 10, .inr (.inr (.inr (.inr (fun _ => none))))))] H := hP
  have hD : va_D A [(a1, .inr (4, [.int 1, .ref (dI 1000 0), .int 0])), (q_3, .inl (T 4, 10, .inr (.inr (.inr (.inr (fun _ => none))))))] := hD
  refine W.widen (k := 1) (n := 10) (by omega) (by omega) ?_
  refine lv_dup_x1 hx hb dJx4a65c_grow_92f84_55 rfl rfl ?_
  refine va_put (D := (dC, dI)) (ci := 4) (v := .ref q_3) (ty := .array (.object "java/lang/Object")) (C := RJx4a65c) (T := TJx4a65c) (N := 3) hx hb hts hin_Jx4a65c tyJx4a65c tyJx4a65c_ok nmJx4a65c hown hK hP hD hS 0 rfl rfl 1 (by decide) (hts (.fieldLink RJx4a65c 9 "java/util/ArrayList" "elementData" "[Ljava/lang/Object;") (by decide +kernel)) (fun _ h9 => h9) rfl (by decide +kernel) rfl rfl (Nat.le_of_ble_eq_true rfl) dJx4a65c_grow_92f84_56 (fun H locs hP hD hS => ?_)
  have hP : va_P (dC, dI) vwCl [(a1, .inr (4, [.int 1, .ref q_3, .int 0])), (q_3, .inl (T 4, 10, .inr (.inr (.inr (.inr (fun _ => none))))))] H := hP
  have hD : va_D A [(a1, .inr (4, [.int 1, .ref q_3, .int 0])), (q_3, .inl (T 4, 10, .inr (.inr (.inr (.inr (fun _ => none))))))] := hD
  have hP9 := hP.sub (ws' := [(a1, .inr (4, [.int 1, .ref q_3, .int 0])), (q_3, .inl (T 4, 10, .inr (.inr (.inr (.inr (fun _ => none))))))]) [0, 1] rfl
  have hD9 := hD.sub (ws' := [(a1, .inr (4, [.int 1, .ref q_3, .int 0])), (q_3, .inl (T 4, 10, .inr (.inr (.inr (.inr (fun _ => none))))))]) [0, 1] (by decide) rfl
  exact W.aret (v := .ref q_3) hx hb hr (Or.inr ⟨_, rfl⟩) (Or.inr ⟨_, rfl⟩) (fun t ht hW => ⟨⟨(), _, rfl, trivial, ⟨q_3, rfl, by rw [ht]; exact hP9, hD9⟩⟩, hS.F ht⟩) hS.2.2 dJx4a65c_grow_92f84_59
set_option maxHeartbeats 4000000 in
set_option maxRecDepth 100000 in
theorem xcJx4a65c_grow_d5877 (l : Launch) (hst : l.stackTraces = false) (dC : Nat → ClassId) (dI : Nat → Nat → Nat) (T : Nat → ClassId) (a1 : Nat) (sz : Nat) : Met l yJx4a65c_grow_d5877 wsJx4a65c_grow_d5877 ({ frames := 2, cells := 1, slots := 10, locals := 37 } : Room) (va_Pc [.ref a1] (fun U => xB dC dI T [(a1, .inr (4, [.int 1, .ref (dI 1000 0), .int 0]))] sz U)) (va_Qr (fun _ : Unit => True) (fun (_ : Unit) (ra : Nat) (t : State) => ∃ (q_2 : Nat), q_2 = ra ∧ xE dC dI [(a1, .inr (4, [.int 1, .ref q_2, .int 0])), (q_2, .inl (T 4, 10, .inr (.inr (.inr (.inr (fun _ => none))))))] (va_A [(a1, .inr (4, [.int 1, .ref (dI 1000 0), .int 0]))] sz) t) (va_A [(a1, .inr (4, [.int 1, .ref (dI 1000 0), .int 0]))] sz)) 1 10 (va_A [(a1, .inr (4, [.int 1, .ref (dI 1000 0), .int 0]))] sz) := by
  refine Met.ofW (cc := cJx4a65c_grow_d5877) (maxL := 1) (ret := (some (.array (.object "java/lang/Object")))) (by decide +kernel) rfl ?_
  intro p e s m args below meth c s₁ B hml hv
  obtain ⟨rfl, hsz, hP, hK, hD0, hG⟩ := hv
  have hx := B.exec
  have hb := B.bytes
  have hr := B.returns
  have hts := atoms_spec (ws := wsJx4a65c_grow_d5877) B.pre
  have hown : s.vm.findClass RJx4a65c = some m.cls := findClass_of_methodNamed B.named
  have hlocks := B.notSynchronized
  have hin_Jx4a65c : ∀ w ∈ wsJx4a65c0, w ∈ wsJx4a65c_grow_d5877 := by decide +kernel
  subst hsz
  have hD := hD0.self (sz := s.heap.size)
  generalize hAe : va_A [(a1, .inr (4, [.int 1, .ref (dI 1000 0), .int 0]))] s.heap.size = A at hD hG ⊢
  have hA : ∀ q : Nat, s.heap.size ≤ q → A q := fun q h => by rw [← hAe]; exact Or.inr h
  have hS : va_S A s.heap s.heap [] := va_S.rf
  have hl := lv_entry ([.ref a1]) (n := 1) (Nat.le_of_ble_eq_true rfl)
  rw [lg_entry_eq]
  generalize (lg_sl ([.ref a1]) ++ List.replicate (1 - (lg_sl ([.ref a1])).length) Slot.unset).toArray = ls at hl ⊢
  have hl : lv_has ls 1 [(0, .ref a1)] := hl
  refine lv_aload_n hx hb dJx4a65c_grow_d5877_0 rfl (lv_at hl 0 rfl) ?_
  refine lv_aload_n hx hb dJx4a65c_grow_d5877_1 rfl (lv_at hl 0 rfl) ?_
  refine va_get (D := (dC, dI)) (ci := 4) (v := .int 0) (C := RJx4a65c) (T := TJx4a65c) (N := 3) hx hb hts hin_Jx4a65c hown hK hP 0 rfl rfl 2 (by decide) (hts (.fieldLink RJx4a65c 48 "java/util/ArrayList" "size" "I") (by decide +kernel)) (fun _ h9 => h9) rfl dJx4a65c_grow_d5877_2 ?_
  refine lv_iconst (v := 1) hx hb dJx4a65c_grow_d5877_5 (by decide) ?_
  refine lv_iadd hx hb dJx4a65c_grow_d5877_6 ?_
  refine lv_topi (fun f_1 ef_1 => ?_)
  obtain rfl : f_1 = 1 := ef_1.trans (by decide)
  have hPc := hP.sub (ws' := [(a1, .inr (4, [.int 1, .ref (dI 1000 0), .int 0]))]) [0] rfl
  have hDc := hD.sub (ws' := [(a1, .inr (4, [.int 1, .ref (dI 1000 0), .int 0]))]) [0] (by decide) rfl
  have hFc := va_free (wc := [(a1, .inr (4, [.int 1, .ref (dI 1000 0), .int 0]))]) hD hS hA [0] rfl
  refine va_callr (va_runV (As := [.int 1]) (rest := []) ⟨hx, hb, hml, hown, hts⟩ (xcJx4a65c_grow_92f84 l hst dC dI T a1 s.heap.size) (cwV 1 hts gJx4a65c_grow_d5877_Jx4a65c_grow_92f84 rfl rfl rfl (by decide +kernel) ⟨Nat.le_of_ble_eq_true rfl, Nat.le_of_ble_eq_true rfl⟩) ⟨xBlind, va_recv hK hPc (ci := 4) (q0 := 0) rfl rfl, xCall hK hG hS hPc hDc hFc⟩ rfl rfl hl.1 rfl (lv_room (Nat.le_of_ble_eq_true rfl)) dJx4a65c_grow_d5877_7 ⟨Nat.le_of_ble_eq_true rfl, Nat.le_of_ble_eq_true rfl⟩) hS (fun q _ h => hFc q h) hFc (fun u ra t H locs ht hvm hw hB hz1 hk1 hS => ?_)
  rcases hB with ⟨q_2, hr_9, hP1, hD1⟩
  rw [ht] at hP1
  subst hr_9
  obtain ⟨hP, hD⟩ := va_join (wr := []) (w1 := [(a1, .inr (4, [.int 1, .ref q_2, .int 0])), (q_2, .inl (T 4, 10, .inr (.inr (.inr (.inr (fun _ => none))))))]) hP hD [0] [] rfl rfl (by decide) (by decide) hk1 hFc hP1 hD1
  have hP : va_P (dC, dI) vwCl [(a1, .inr (4, [.int 1, .ref q_2, .int 0])), (q_2, .inl (T 4, 10, .inr (.inr (.inr (.inr (fun _ => none))))))] H := hP
  have hD : va_D A [(a1, .inr (4, [.int 1, .ref q_2, .int 0])), (q_2, .inl (T 4, 10, .inr (.inr (.inr (.inr (fun _ => none))))))] := hD
  clear hPc hDc hFc hP1 hD1 hk1 hz1 ht hvm
  have hP9 := hP.sub (ws' := [(a1, .inr (4, [.int 1, .ref q_2, .int 0])), (q_2, .inl (T 4, 10, .inr (.inr (.inr (.inr (fun _ => none))))))]) [0, 1] rfl
  have hD9 := hD.sub (ws' := [(a1, .inr (4, [.int 1, .ref q_2, .int 0])), (q_2, .inl (T 4, 10, .inr (.inr (.inr (.inr (fun _ => none))))))]) [0, 1] (by decide) rfl
  exact W.aret (v := .ref q_2) hx hb hr (Or.inr ⟨_, rfl⟩) (Or.inr ⟨_, rfl⟩) (fun t ht hW => ⟨⟨(), _, rfl, trivial, ⟨q_2, rfl, by rw [ht]; exact hP9, hD9⟩⟩, hS.F ht⟩) hS.2.2 dJx4a65c_grow_d5877_10
set_option maxHeartbeats 4000000 in
set_option maxRecDepth 100000 in
theorem xcJx4a65c_add_72be8 (l : Launch) (hst : l.stackTraces = false) (dC : Nat → ClassId) (dI : Nat → Nat → Nat) (T : Nat → ClassId) (a1 : Nat) (a2 : Nat) (sz : Nat) : Met l yJx4a65c_add_72be8 wsJx4a65c_add_72be8 ({ frames := 3, cells := 1, slots := 10, locals := 57 } : Room) (va_Pc [.ref a1, .ref a2, .ref (dI 1000 0), .int 0] (fun U => xB dC dI T [(a1, .inr (4, [.int 1, .ref (dI 1000 0), .int 0])), (a2, .inl (T 2, 12, .inr (.inr (.inr (.inr (fun _ => none))))))] sz U)) (va_Qv (fun _ : Unit => True) (fun (_ : Unit) (t : State) => ∃ (q_2 : Nat), xE dC dI [(a1, .inr (4, [.int 1, .ref q_2, .int 1])), (a2, .inl (T 2, 12, .inr (.inr (.inr (.inr (fun _ => none)))))), (q_2, .inl (T 4, 10, .inr (.inr (.inr (.inr (va_up (fun _ => none) (0 : Int32).toNatClampNeg (some a2)))))))] (va_A [(a1, .inr (4, [.int 1, .ref (dI 1000 0), .int 0])), (a2, .inl (T 2, 12, .inr (.inr (.inr (.inr (fun _ => none))))))] sz) t) (va_A [(a1, .inr (4, [.int 1, .ref (dI 1000 0), .int 0])), (a2, .inl (T 2, 12, .inr (.inr (.inr (.inr (fun _ => none))))))] sz)) 1 10 (va_A [(a1, .inr (4, [.int 1, .ref (dI 1000 0), .int 0])), (a2, .inl (T 2, 12, .inr (.inr (.inr (.inr (fun _ => none))))))] sz) := by
  refine Met.ofW (cc := cJx4a65c_add_72be8) (maxL := 4) (ret := none) (by decide +kernel) rfl ?_
  intro p e s m args below meth c s₁ B hml hv
  obtain ⟨rfl, hsz, hP, hK, hD0, hG⟩ := hv
  have hx := B.exec
  have hb := B.bytes
  have hr := B.returns
  have hts := atoms_spec (ws := wsJx4a65c_add_72be8) B.pre
  have hown : s.vm.findClass RJx4a65c = some m.cls := findClass_of_methodNamed B.named
  have hlocks := B.notSynchronized
  have hin_Jx4a65c : ∀ w ∈ wsJx4a65c0, w ∈ wsJx4a65c_add_72be8 := by decide +kernel
  subst hsz
  have hD := hD0.self (sz := s.heap.size)
  generalize hAe : va_A [(a1, .inr (4, [.int 1, .ref (dI 1000 0), .int 0])), (a2, .inl (T 2, 12, .inr (.inr (.inr (.inr (fun _ => none))))))] s.heap.size = A at hD hG ⊢
  have hA : ∀ q : Nat, s.heap.size ≤ q → A q := fun q h => by rw [← hAe]; exact Or.inr h
  have hS : va_S A s.heap s.heap [] := va_S.rf
  have hl := lv_entry ([.ref a1, .ref a2, .ref (dI 1000 0), .int 0]) (n := 4) (Nat.le_of_ble_eq_true rfl)
  rw [lg_entry_eq]
  generalize (lg_sl ([.ref a1, .ref a2, .ref (dI 1000 0), .int 0]) ++ List.replicate (4 - (lg_sl ([.ref a1, .ref a2, .ref (dI 1000 0), .int 0])).length) Slot.unset).toArray = ls at hl ⊢
  have hl : lv_has ls 4 [(0, .ref a1), (1, .ref a2), (2, .ref (dI 1000 0)), (3, .int 0)] := hl
  refine lv_iload_n hx hb dJx4a65c_add_72be8_0 rfl (lv_at hl 3 rfl) ?_
  refine lv_aload_n hx hb dJx4a65c_add_72be8_1 rfl (lv_at hl 2 rfl) ?_
  refine va_tlen (v := 0) hx hb hG.2.2.2.2.2.2.2.2.2.2.2.2.2 hS (by decide) dJx4a65c_add_72be8_2 ?_
  refine lv_icmp_ne (tgt := 11) hx hb dJx4a65c_add_72be8_3 (by decide) (fun c_1 => absurd c_1 (by decide)) (fun c_1 => ?_)
  refine lv_aload_n hx hb dJx4a65c_add_72be8_6 rfl (lv_at hl 0 rfl) ?_
  have hPc := hP.sub (ws' := [(a1, .inr (4, [.int 1, .ref (dI 1000 0), .int 0]))]) [0] rfl
  have hDc := hD.sub (ws' := [(a1, .inr (4, [.int 1, .ref (dI 1000 0), .int 0]))]) [0] (by decide) rfl
  have hFc := va_free (wc := [(a1, .inr (4, [.int 1, .ref (dI 1000 0), .int 0]))]) hD hS hA [0] rfl
  refine va_callr (va_runV (As := []) (rest := []) ⟨hx, hb, hml, hown, hts⟩ (xcJx4a65c_grow_d5877 l hst dC dI T a1 s.heap.size) (cwV 0 hts gJx4a65c_add_72be8_Jx4a65c_grow_d5877 rfl rfl rfl (by decide +kernel) ⟨Nat.le_of_ble_eq_true rfl, Nat.le_of_ble_eq_true rfl⟩) ⟨xBlind, va_recv hK hPc (ci := 4) (q0 := 0) rfl rfl, xCall hK hG hS hPc hDc hFc⟩ rfl rfl hl.1 rfl (lv_room (Nat.le_of_ble_eq_true rfl)) dJx4a65c_add_72be8_7 ⟨Nat.le_of_ble_eq_true rfl, Nat.le_of_ble_eq_true rfl⟩) hS (fun q _ h => hFc q h) hFc (fun u ra t H locs ht hvm hw hB hz1 hk1 hS => ?_)
  rcases hB with ⟨q_2, hr_9, hP1, hD1⟩
  rw [ht] at hP1
  subst hr_9
  obtain ⟨hP, hD⟩ := va_join (wr := [(a2, .inl (T 2, 12, .inr (.inr (.inr (.inr (fun _ => none))))))]) (w1 := [(a1, .inr (4, [.int 1, .ref q_2, .int 0])), (q_2, .inl (T 4, 10, .inr (.inr (.inr (.inr (fun _ => none))))))]) hP hD [0] [1] rfl rfl (by decide) (by decide) hk1 hFc hP1 hD1
  have hP := hP.sub (ws' := [(a1, .inr (4, [.int 1, .ref q_2, .int 0])), (a2, .inl (T 2, 12, .inr (.inr (.inr (.inr (fun _ => none)))))), (q_2, .inl (T 4, 10, .inr (.inr (.inr (.inr (fun _ => none))))))]) [1, 0, 2] rfl
  have hD := hD.sub (ws' := [(a1, .inr (4, [.int 1, .ref q_2, .int 0])), (a2, .inl (T 2, 12, .inr (.inr (.inr (.inr (fun _ => none)))))), (q_2, .inl (T 4, 10, .inr (.inr (.inr (.inr (fun _ => none))))))]) [1, 0, 2] (by decide) rfl
  clear hPc hDc hFc hP1 hD1 hk1 hz1 ht hvm
  refine lv_astore_n (lv' := [(2, .ref q_2), (0, .ref a1), (1, .ref a2), (3, .int 0)]) hx hb dJx4a65c_add_72be8_10 rfl hl (by decide) rfl (fun ls hl => ?_)
  refine lv_aload_n hx hb dJx4a65c_add_72be8_11 rfl (lv_at hl 0 rfl) ?_
  refine lv_iload_n hx hb dJx4a65c_add_72be8_12 rfl (lv_at hl 3 rfl) ?_
  refine lv_aload_n hx hb dJx4a65c_add_72be8_13 rfl (lv_at hl 2 rfl) ?_
  refine va_astqM hx hb hK hP hD hS 2 4 rfl rfl (xAny (qk := 1) hP rfl rfl rfl (hK.2 2 _ rfl).2 hG.2.2.2.2.2.2.2.2.2.2.1) (show vp_in 0 10 by unfold vp_in; decide) dJx4a65c_add_72be8_14 (fun H locs hP hD hS => ?_)
  have hP : va_P (dC, dI) vwCl [(a1, .inr (4, [.int 1, .ref q_2, .int 0])), (a2, .inl (T 2, 12, .inr (.inr (.inr (.inr (fun _ => none)))))), (q_2, .inl (T 4, 10, .inr (.inr (.inr (.inr (va_up (fun _ => none) (0 : Int32).toNatClampNeg (some a2)))))))] H := hP
  have hD : va_D A [(a1, .inr (4, [.int 1, .ref q_2, .int 0])), (a2, .inl (T 2, 12, .inr (.inr (.inr (.inr (fun _ => none)))))), (q_2, .inl (T 4, 10, .inr (.inr (.inr (.inr (va_up (fun _ => none) (0 : Int32).toNatClampNeg (some a2)))))))] := hD
  refine lv_aload_n hx hb dJx4a65c_add_72be8_15 rfl (lv_at hl 1 rfl) ?_
  refine lv_iload_n hx hb dJx4a65c_add_72be8_16 rfl (lv_at hl 3 rfl) ?_
  refine lv_iconst (v := 1) hx hb dJx4a65c_add_72be8_17 (by decide) ?_
  refine lv_iadd hx hb dJx4a65c_add_72be8_18 ?_
  refine lv_topi (fun f_4 ef_4 => ?_)
  obtain rfl : f_4 = 1 := ef_4.trans (by decide)
  refine va_put (D := (dC, dI)) (ci := 4) (v := .int 1) (ty := .int) (C := RJx4a65c) (T := TJx4a65c) (N := 3) hx hb hts hin_Jx4a65c tyJx4a65c tyJx4a65c_ok nmJx4a65c hown hK hP hD hS 0 rfl rfl 2 (by decide) (hts (.fieldLink RJx4a65c 48 "java/util/ArrayList" "size" "I") (by decide +kernel)) (fun _ h9 => h9) rfl (by decide +kernel) rfl rfl (Nat.le_of_ble_eq_true rfl) dJx4a65c_add_72be8_19 (fun H locs hP hD hS => ?_)
  have hP : va_P (dC, dI) vwCl [(a1, .inr (4, [.int 1, .ref q_2, .int 1])), (a2, .inl (T 2, 12, .inr (.inr (.inr (.inr (fun _ => none)))))), (q_2, .inl (T 4, 10, .inr (.inr (.inr (.inr (va_up (fun _ => none) (0 : Int32).toNatClampNeg (some a2)))))))] H := hP
  have hD : va_D A [(a1, .inr (4, [.int 1, .ref q_2, .int 1])), (a2, .inl (T 2, 12, .inr (.inr (.inr (.inr (fun _ => none)))))), (q_2, .inl (T 4, 10, .inr (.inr (.inr (.inr (va_up (fun _ => none) (0 : Int32).toNatClampNeg (some a2)))))))] := hD
  have hP9 := hP.sub (ws' := [(a1, .inr (4, [.int 1, .ref q_2, .int 1])), (a2, .inl (T 2, 12, .inr (.inr (.inr (.inr (fun _ => none)))))), (q_2, .inl (T 4, 10, .inr (.inr (.inr (.inr (va_up (fun _ => none) (0 : Int32).toNatClampNeg (some a2)))))))]) [0, 1, 2] rfl
  have hD9 := hD.sub (ws' := [(a1, .inr (4, [.int 1, .ref q_2, .int 1])), (a2, .inl (T 2, 12, .inr (.inr (.inr (.inr (fun _ => none)))))), (q_2, .inl (T 4, 10, .inr (.inr (.inr (.inr (va_up (fun _ => none) (0 : Int32).toNatClampNeg (some a2)))))))]) [0, 1, 2] (by decide) rfl
  exact W.vret hx hb hr (fun t ht hW => ⟨⟨(), rfl, trivial, ⟨q_2, by rw [ht]; exact hP9, hD9⟩⟩, hS.F ht⟩) hS.2.2 dJx4a65c_add_72be8_22
set_option maxHeartbeats 4000000 in
set_option maxRecDepth 100000 in
theorem xcJx4a65c_add_9ea2d (l : Launch) (hst : l.stackTraces = false) (dC : Nat → ClassId) (dI : Nat → Nat → Nat) (T : Nat → ClassId) (a1 : Nat) (a2 : Nat) (sz : Nat) : Met l yJx4a65c_add_9ea2d wsJx4a65c_add_9ea2d ({ frames := 4, cells := 1, slots := 10, locals := 80 } : Room) (va_Pc [.ref a1, .ref a2] (fun U => xB dC dI T [(a1, .inr (4, [.int 0, .ref (dI 1000 0), .int 0])), (a2, .inl (T 2, 12, .inr (.inr (.inr (.inr (fun _ => none))))))] sz U)) (va_Qi (fun (r u : Int32) => r = u) (fun (u : Int32) (t : State) => ∃ (q_2 : Nat), 1 = u ∧ xE dC dI [(a1, .inr (4, [.int 1, .ref q_2, .int 1])), (a2, .inl (T 2, 12, .inr (.inr (.inr (.inr (fun _ => none)))))), (q_2, .inl (T 4, 10, .inr (.inr (.inr (.inr (va_up (fun _ => none) (0 : Int32).toNatClampNeg (some a2)))))))] (va_A [(a1, .inr (4, [.int 0, .ref (dI 1000 0), .int 0])), (a2, .inl (T 2, 12, .inr (.inr (.inr (.inr (fun _ => none))))))] sz) t) (va_A [(a1, .inr (4, [.int 0, .ref (dI 1000 0), .int 0])), (a2, .inl (T 2, 12, .inr (.inr (.inr (.inr (fun _ => none))))))] sz)) 1 10 (va_A [(a1, .inr (4, [.int 0, .ref (dI 1000 0), .int 0])), (a2, .inl (T 2, 12, .inr (.inr (.inr (.inr (fun _ => none))))))] sz) := by
  refine Met.ofW (cc := cJx4a65c_add_9ea2d) (maxL := 2) (ret := (some .boolean)) (by decide +kernel) rfl ?_
  intro p e s m args below meth c s₁ B hml hv
  obtain ⟨rfl, hsz, hP, hK, hD0, hG⟩ := hv
  have hx := B.exec
  have hb := B.bytes
  have hr := B.returns
  have hts := atoms_spec (ws := wsJx4a65c_add_9ea2d) B.pre
  have hown : s.vm.findClass RJx4a65c = some m.cls := findClass_of_methodNamed B.named
  have hlocks := B.notSynchronized
  have hin_Jx4a65c : ∀ w ∈ wsJx4a65c0, w ∈ wsJx4a65c_add_9ea2d := by decide +kernel
  subst hsz
  have hD := hD0.self (sz := s.heap.size)
  generalize hAe : va_A [(a1, .inr (4, [.int 0, .ref (dI 1000 0), .int 0])), (a2, .inl (T 2, 12, .inr (.inr (.inr (.inr (fun _ => none))))))] s.heap.size = A at hD hG ⊢
  have hA : ∀ q : Nat, s.heap.size ≤ q → A q := fun q h => by rw [← hAe]; exact Or.inr h
  have hS : va_S A s.heap s.heap [] := va_S.rf
  have hl := lv_entry ([.ref a1, .ref a2]) (n := 2) (Nat.le_of_ble_eq_true rfl)
  rw [lg_entry_eq]
  generalize (lg_sl ([.ref a1, .ref a2]) ++ List.replicate (2 - (lg_sl ([.ref a1, .ref a2])).length) Slot.unset).toArray = ls at hl ⊢
  have hl : lv_has ls 2 [(0, .ref a1), (1, .ref a2)] := hl
  refine lv_aload_n hx hb dJx4a65c_add_9ea2d_0 rfl (lv_at hl 0 rfl) ?_
  refine lv_dup hx hb dJx4a65c_add_9ea2d_1 rfl ?_
  refine va_get (D := (dC, dI)) (ci := 4) (v := .int 0) (C := RJx4a65c) (T := TJx4a65c) (N := 3) hx hb hts hin_Jx4a65c hown hK hP 0 rfl rfl 0 (by decide) (hts (.fieldLink RJx4a65c 63 "java/util/ArrayList" "modCount" "I") (by decide +kernel)) (fun x h9 => u_same (hts (.sameField "java/util/ArrayList" "java/util/AbstractList" "modCount" "I") (by decide +kernel)) x h9) rfl dJx4a65c_add_9ea2d_2 ?_
  refine lv_iconst (v := 1) hx hb dJx4a65c_add_9ea2d_5 (by decide) ?_
  refine lv_iadd hx hb dJx4a65c_add_9ea2d_6 ?_
  refine lv_topi (fun f_1 ef_1 => ?_)
  obtain rfl : f_1 = 1 := ef_1.trans (by decide)
  refine va_put (D := (dC, dI)) (ci := 4) (v := .int 1) (ty := .int) (C := RJx4a65c) (T := TJx4a65c) (N := 3) hx hb hts hin_Jx4a65c tyJx4a65c tyJx4a65c_ok nmJx4a65c hown hK hP hD hS 0 rfl rfl 0 (by decide) (hts (.fieldLink RJx4a65c 63 "java/util/ArrayList" "modCount" "I") (by decide +kernel)) (fun x h9 => u_same (hts (.sameField "java/util/ArrayList" "java/util/AbstractList" "modCount" "I") (by decide +kernel)) x h9) rfl (by decide +kernel) rfl rfl (Nat.le_of_ble_eq_true rfl) dJx4a65c_add_9ea2d_7 (fun H locs hP hD hS => ?_)
  have hP : va_P (dC, dI) vwCl [(a1, .inr (4, [.int 1, .ref (dI 1000 0), .int 0])), (a2, .inl (T 2, 12, .inr (.inr (.inr (.inr (fun _ => none))))))] H := hP
  have hD : va_D A [(a1, .inr (4, [.int 1, .ref (dI 1000 0), .int 0])), (a2, .inl (T 2, 12, .inr (.inr (.inr (.inr (fun _ => none))))))] := hD
  refine lv_aload_n hx hb dJx4a65c_add_9ea2d_10 rfl (lv_at hl 0 rfl) ?_
  refine lv_aload_n hx hb dJx4a65c_add_9ea2d_11 rfl (lv_at hl 1 rfl) ?_
  refine lv_aload_n hx hb dJx4a65c_add_9ea2d_12 rfl (lv_at hl 0 rfl) ?_
  refine va_get (D := (dC, dI)) (ci := 4) (v := .ref (dI 1000 0)) (C := RJx4a65c) (T := TJx4a65c) (N := 3) hx hb hts hin_Jx4a65c hown hK hP 0 rfl rfl 1 (by decide) (hts (.fieldLink RJx4a65c 9 "java/util/ArrayList" "elementData" "[Ljava/lang/Object;") (by decide +kernel)) (fun _ h9 => h9) rfl dJx4a65c_add_9ea2d_13 ?_
  refine lv_aload_n hx hb dJx4a65c_add_9ea2d_16 rfl (lv_at hl 0 rfl) ?_
  refine va_get (D := (dC, dI)) (ci := 4) (v := .int 0) (C := RJx4a65c) (T := TJx4a65c) (N := 3) hx hb hts hin_Jx4a65c hown hK hP 0 rfl rfl 2 (by decide) (hts (.fieldLink RJx4a65c 48 "java/util/ArrayList" "size" "I") (by decide +kernel)) (fun _ h9 => h9) rfl dJx4a65c_add_9ea2d_17 ?_
  have hPc := hP.sub (ws' := [(a1, .inr (4, [.int 1, .ref (dI 1000 0), .int 0])), (a2, .inl (T 2, 12, .inr (.inr (.inr (.inr (fun _ => none))))))]) [0, 1] rfl
  have hDc := hD.sub (ws' := [(a1, .inr (4, [.int 1, .ref (dI 1000 0), .int 0])), (a2, .inl (T 2, 12, .inr (.inr (.inr (.inr (fun _ => none))))))]) [0, 1] (by decide) rfl
  have hFc := va_free (wc := [(a1, .inr (4, [.int 1, .ref (dI 1000 0), .int 0])), (a2, .inl (T 2, 12, .inr (.inr (.inr (.inr (fun _ => none))))))]) hD hS hA [0, 1] rfl
  refine va_callv (va_runV (As := [.ref a2, .ref (dI 1000 0), .int 0]) (rest := []) ⟨hx, hb, hml, hown, hts⟩ (xcJx4a65c_add_72be8 l hst dC dI T a1 a2 H.size) (cwV 3 hts gJx4a65c_add_9ea2d_Jx4a65c_add_72be8 rfl rfl rfl (by decide +kernel) ⟨Nat.le_of_ble_eq_true rfl, Nat.le_of_ble_eq_true rfl⟩) ⟨xBlind, va_recv hK hPc (ci := 4) (q0 := 0) rfl rfl, xCall hK hG hS hPc hDc hFc⟩ rfl rfl hl.1 rfl (lv_room (Nat.le_of_ble_eq_true rfl)) dJx4a65c_add_9ea2d_20 ⟨Nat.le_of_ble_eq_true rfl, Nat.le_of_ble_eq_true rfl⟩) hS (fun q _ h => hFc q h) hFc (fun u t H locs ht hvm hw hB hz1 hk1 hS => ?_)
  rcases hB with ⟨q_2, hP1, hD1⟩
  rw [ht] at hP1
  obtain ⟨hP, hD⟩ := va_join (wr := []) (w1 := [(a1, .inr (4, [.int 1, .ref q_2, .int 1])), (a2, .inl (T 2, 12, .inr (.inr (.inr (.inr (fun _ => none)))))), (q_2, .inl (T 4, 10, .inr (.inr (.inr (.inr (va_up (fun _ => none) (0 : Int32).toNatClampNeg (some a2)))))))]) hP hD [0, 1] [] rfl rfl (by decide) (by decide) hk1 hFc hP1 hD1
  have hP : va_P (dC, dI) vwCl [(a1, .inr (4, [.int 1, .ref q_2, .int 1])), (a2, .inl (T 2, 12, .inr (.inr (.inr (.inr (fun _ => none)))))), (q_2, .inl (T 4, 10, .inr (.inr (.inr (.inr (va_up (fun _ => none) (0 : Int32).toNatClampNeg (some a2)))))))] H := hP
  have hD : va_D A [(a1, .inr (4, [.int 1, .ref q_2, .int 1])), (a2, .inl (T 2, 12, .inr (.inr (.inr (.inr (fun _ => none)))))), (q_2, .inl (T 4, 10, .inr (.inr (.inr (.inr (va_up (fun _ => none) (0 : Int32).toNatClampNeg (some a2)))))))] := hD
  clear hPc hDc hFc hP1 hD1 hk1 hz1 ht hvm
  refine lv_iconst (v := 1) hx hb dJx4a65c_add_9ea2d_23 (by decide) ?_
  have hP9 := hP.sub (ws' := [(a1, .inr (4, [.int 1, .ref q_2, .int 1])), (a2, .inl (T 2, 12, .inr (.inr (.inr (.inr (fun _ => none)))))), (q_2, .inl (T 4, 10, .inr (.inr (.inr (.inr (va_up (fun _ => none) (0 : Int32).toNatClampNeg (some a2)))))))]) [0, 1, 2] rfl
  have hD9 := hD.sub (ws' := [(a1, .inr (4, [.int 1, .ref q_2, .int 1])), (a2, .inl (T 2, 12, .inr (.inr (.inr (.inr (fun _ => none)))))), (q_2, .inl (T 4, 10, .inr (.inr (.inr (.inr (va_up (fun _ => none) (0 : Int32).toNatClampNeg (some a2)))))))]) [0, 1, 2] (by decide) rfl
  exact W.zret (v := 1) hx hb hr (by decide) (fun t ht hW => ⟨⟨_, _, rfl, rfl, ⟨q_2, rfl, by rw [ht]; exact hP9, hD9⟩⟩, hS.F ht⟩) hS.2.2 dJx4a65c_add_9ea2d_24
set_option maxHeartbeats 4000000 in
set_option maxRecDepth 100000 in
theorem xcJx4a65c_size_8abf5 (l : Launch) (hst : l.stackTraces = false) (dC : Nat → ClassId) (dI : Nat → Nat → Nat) (T : Nat → ClassId) (a1 : Nat) (a2 : Nat) (sz : Nat) : Met l yJx4a65c_size_8abf5 wsJx4a65c_size_8abf5 ({ frames := 0, cells := 0, slots := 0, locals := 0 } : Room) (va_Pc [.ref a1] (fun U => xB dC dI T [(a1, .inr (4, [.int 1, .ref a2, .int 1]))] sz U)) (va_Qi (fun (r u : Int32) => r = u) (fun (u : Int32) (t : State) => 1 = u ∧ xE dC dI [(a1, .inr (4, [.int 1, .ref a2, .int 1]))] (va_A [(a1, .inr (4, [.int 1, .ref a2, .int 1]))] sz) t) (va_A [(a1, .inr (4, [.int 1, .ref a2, .int 1]))] sz)) 0 0 (va_A [(a1, .inr (4, [.int 1, .ref a2, .int 1]))] sz) := by
  refine Met.ofW (cc := cJx4a65c_size_8abf5) (maxL := 1) (ret := (some .int)) (by decide +kernel) rfl ?_
  intro p e s m args below meth c s₁ B hml hv
  obtain ⟨rfl, hsz, hP, hK, hD0, hG⟩ := hv
  have hx := B.exec
  have hb := B.bytes
  have hr := B.returns
  have hts := atoms_spec (ws := wsJx4a65c_size_8abf5) B.pre
  have hown : s.vm.findClass RJx4a65c = some m.cls := findClass_of_methodNamed B.named
  have hlocks := B.notSynchronized
  have hin_Jx4a65c : ∀ w ∈ wsJx4a65c0, w ∈ wsJx4a65c_size_8abf5 := by decide +kernel
  subst hsz
  have hD := hD0.self (sz := s.heap.size)
  generalize hAe : va_A [(a1, .inr (4, [.int 1, .ref a2, .int 1]))] s.heap.size = A at hD hG ⊢
  have hA : ∀ q : Nat, s.heap.size ≤ q → A q := fun q h => by rw [← hAe]; exact Or.inr h
  have hS : va_S A s.heap s.heap [] := va_S.rf
  have hl := lv_entry ([.ref a1]) (n := 1) (Nat.le_of_ble_eq_true rfl)
  rw [lg_entry_eq]
  generalize (lg_sl ([.ref a1]) ++ List.replicate (1 - (lg_sl ([.ref a1])).length) Slot.unset).toArray = ls at hl ⊢
  have hl : lv_has ls 1 [(0, .ref a1)] := hl
  refine lv_aload_n hx hb dJx4a65c_size_8abf5_0 rfl (lv_at hl 0 rfl) ?_
  refine va_get (D := (dC, dI)) (ci := 4) (v := .int 1) (C := RJx4a65c) (T := TJx4a65c) (N := 3) hx hb hts hin_Jx4a65c hown hK hP 0 rfl rfl 2 (by decide) (hts (.fieldLink RJx4a65c 48 "java/util/ArrayList" "size" "I") (by decide +kernel)) (fun _ h9 => h9) rfl dJx4a65c_size_8abf5_1 ?_
  have hP9 := hP.sub (ws' := [(a1, .inr (4, [.int 1, .ref a2, .int 1]))]) [0] rfl
  have hD9 := hD.sub (ws' := [(a1, .inr (4, [.int 1, .ref a2, .int 1]))]) [0] (by decide) rfl
  exact W.iret (v := 1) hx hb hr (fun t ht hW => ⟨⟨_, _, rfl, rfl, ⟨rfl, by rw [ht]; exact hP9, hD9⟩⟩, hS.F ht⟩) hS.2.2 dJx4a65c_size_8abf5_4
set_option maxHeartbeats 4000000 in
set_option maxRecDepth 100000 in
theorem xcX12_keep (l : Launch) (hst : l.stackTraces = false) (dC : Nat → ClassId) (dI : Nat → Nat → Nat) (T : Nat → ClassId) (a1 : Nat) (a2 : Nat) (a3 : Nat) (a4 : Nat) (sz : Nat) : Met l yX12_keep wsX12_keep ({ frames := 5, cells := 2, slots := 22, locals := 101 } : Room) (va_Pc [.ref a1] (fun U => xB dC dI T [(a1, .inr (17, [.int 0, .ref a2, .ref a3, .ref a4, .long 0])), (a2, .inl (T 2, 12, .inr (.inr (.inr (.inr (fun _ => none)))))), (a3, .inr (4, [.int 0, .ref (dI 1000 0), .int 0]))] sz U)) (va_Qv (fun _ : Unit => True) (fun (_ : Unit) (t : State) => ∃ (q_3 : Nat) (q_1 : Nat), xE dC dI [(a1, .inr (17, [.int 0, .ref a2, .ref a3, .ref a4, .long 0])), (a2, .inl (T 2, 12, .inr (.inr (.inr (.inr (fun _ => none)))))), (a3, .inr (4, [.int 1, .ref q_3, .int 1])), (q_3, .inl (T 4, 10, .inr (.inr (.inr (.inr (va_up (fun _ => none) (0 : Int32).toNatClampNeg (some q_1)))))))] (va_A [(a1, .inr (17, [.int 0, .ref a2, .ref a3, .ref a4, .long 0])), (a2, .inl (T 2, 12, .inr (.inr (.inr (.inr (fun _ => none)))))), (a3, .inr (4, [.int 0, .ref (dI 1000 0), .int 0]))] sz) t) (va_A [(a1, .inr (17, [.int 0, .ref a2, .ref a3, .ref a4, .long 0])), (a2, .inl (T 2, 12, .inr (.inr (.inr (.inr (fun _ => none)))))), (a3, .inr (4, [.int 0, .ref (dI 1000 0), .int 0]))] sz)) 2 22 (va_A [(a1, .inr (17, [.int 0, .ref a2, .ref a3, .ref a4, .long 0])), (a2, .inl (T 2, 12, .inr (.inr (.inr (.inr (fun _ => none)))))), (a3, .inr (4, [.int 0, .ref (dI 1000 0), .int 0]))] sz) := by
  refine Met.ofW (cc := cX12_keep) (maxL := 1) (ret := none) (by decide +kernel) rfl ?_
  intro p e s m args below meth c s₁ B hml hv
  obtain ⟨rfl, hsz, hP, hK, hD0, hG⟩ := hv
  have hx := B.exec
  have hb := B.bytes
  have hr := B.returns
  have hts := atoms_spec (ws := wsX12_keep) B.pre
  have hown : s.vm.findClass RX12 = some m.cls := findClass_of_methodNamed B.named
  have hlocks := B.notSynchronized
  have hin_X12 : ∀ w ∈ wsX120, w ∈ wsX12_keep := by decide +kernel
  subst hsz
  have hD := hD0.self (sz := s.heap.size)
  generalize hAe : va_A [(a1, .inr (17, [.int 0, .ref a2, .ref a3, .ref a4, .long 0])), (a2, .inl (T 2, 12, .inr (.inr (.inr (.inr (fun _ => none)))))), (a3, .inr (4, [.int 0, .ref (dI 1000 0), .int 0]))] s.heap.size = A at hD hG ⊢
  have hA : ∀ q : Nat, s.heap.size ≤ q → A q := fun q h => by rw [← hAe]; exact Or.inr h
  have hS : va_S A s.heap s.heap [] := va_S.rf
  have hl := lv_entry ([.ref a1]) (n := 1) (Nat.le_of_ble_eq_true rfl)
  rw [lg_entry_eq]
  generalize (lg_sl ([.ref a1]) ++ List.replicate (1 - (lg_sl ([.ref a1])).length) Slot.unset).toArray = ls at hl ⊢
  have hl : lv_has ls 1 [(0, .ref a1)] := hl
  refine lv_aload_n hx hb dX12_keep_0 rfl (lv_at hl 0 rfl) ?_
  refine va_get (D := (dC, dI)) (ci := 17) (v := .ref a3) (C := RX12) (T := TX12) (N := 5) hx hb hts hin_X12 hown hK hP 0 rfl rfl 2 (by decide) (hts (.fieldLink RX12 18 "NearestwardModel" "undos" "Ljava/util/List;") (by decide +kernel)) (fun _ h9 => h9) rfl dX12_keep_1 ?_
  refine lv_aload_n hx hb dX12_keep_4 rfl (lv_at hl 0 rfl) ?_
  refine va_get (D := (dC, dI)) (ci := 17) (v := .ref a2) (C := RX12) (T := TX12) (N := 5) hx hb hts hin_X12 hown hK hP 0 rfl rfl 1 (by decide) (hts (.fieldLink RX12 11 "NearestwardModel" "points" "[[I") (by decide +kernel)) (fun _ h9 => h9) rfl dX12_keep_5 ?_
  have hPc := hP.sub (ws' := [(a2, .inl (T 2, 12, .inr (.inr (.inr (.inr (fun _ => none))))))]) [1] rfl
  have hDc := hD.sub (ws' := [(a2, .inl (T 2, 12, .inr (.inr (.inr (.inr (fun _ => none))))))]) [1] (by decide) rfl
  have hFc := va_free (wc := [(a2, .inl (T 2, 12, .inr (.inr (.inr (.inr (fun _ => none))))))]) hD hS hA [1] rfl
  refine va_callr (va_runS (As := [.ref a2]) (rest := [.ref a3]) ⟨hx, hb, hml, hown, hts⟩ (xcX12_copy l hst dC dI T a2 s.heap.size) (cwS 1 hts gX12_keep_X12_copy rfl rfl rfl (by decide +kernel) ⟨Nat.le_of_ble_eq_true rfl, Nat.le_of_ble_eq_true rfl⟩) ⟨xBlind, xCall hK hG hS hPc hDc hFc⟩ rfl rfl hl.1 rfl (lv_room (Nat.le_of_ble_eq_true rfl)) dX12_keep_8 ⟨Nat.le_of_ble_eq_true rfl, Nat.le_of_ble_eq_true rfl⟩) hS (fun q _ h => hFc q h) hFc (fun u ra t H locs ht hvm hw hB hz1 hk1 hS => ?_)
  rcases hB with ⟨q_1, hr_9, hP1, hD1⟩
  rw [ht] at hP1
  subst hr_9
  obtain ⟨hP, hD⟩ := va_join (wr := [(a1, .inr (17, [.int 0, .ref a2, .ref a3, .ref a4, .long 0])), (a3, .inr (4, [.int 0, .ref (dI 1000 0), .int 0]))]) (w1 := [(a2, .inl (T 2, 12, .inr (.inr (.inr (.inr (fun _ => none)))))), (q_1, .inl (T 2, 12, .inr (.inr (.inr (.inr (fun _ => none))))))]) hP hD [1] [0, 2] rfl rfl (by decide) (by decide) hk1 hFc hP1 hD1
  have hP := hP.sub (ws' := [(a1, .inr (17, [.int 0, .ref a2, .ref a3, .ref a4, .long 0])), (a2, .inl (T 2, 12, .inr (.inr (.inr (.inr (fun _ => none)))))), (a3, .inr (4, [.int 0, .ref (dI 1000 0), .int 0])), (q_1, .inl (T 2, 12, .inr (.inr (.inr (.inr (fun _ => none))))))]) [0, 2, 1, 3] rfl
  have hD := hD.sub (ws' := [(a1, .inr (17, [.int 0, .ref a2, .ref a3, .ref a4, .long 0])), (a2, .inl (T 2, 12, .inr (.inr (.inr (.inr (fun _ => none)))))), (a3, .inr (4, [.int 0, .ref (dI 1000 0), .int 0])), (q_1, .inl (T 2, 12, .inr (.inr (.inr (.inr (fun _ => none))))))]) [0, 2, 1, 3] (by decide) rfl
  clear hPc hDc hFc hP1 hD1 hk1 hz1 ht hvm
  have hPc := hP.sub (ws' := [(a3, .inr (4, [.int 0, .ref (dI 1000 0), .int 0])), (q_1, .inl (T 2, 12, .inr (.inr (.inr (.inr (fun _ => none))))))]) [2, 3] rfl
  have hDc := hD.sub (ws' := [(a3, .inr (4, [.int 0, .ref (dI 1000 0), .int 0])), (q_1, .inl (T 2, 12, .inr (.inr (.inr (.inr (fun _ => none))))))]) [2, 3] (by decide) rfl
  have hFc := va_free (wc := [(a3, .inr (4, [.int 0, .ref (dI 1000 0), .int 0])), (q_1, .inl (T 2, 12, .inr (.inr (.inr (.inr (fun _ => none))))))]) hD hS hA [2, 3] rfl
  refine va_callFi (va_runF (As := [.ref q_1]) (rest := []) (hK.1 4 _ rfl).2 ⟨hx, hb, hml, hown, hts⟩ (xcJx4a65c_add_9ea2d l hst dC dI T a3 q_1 H.size) (va_cwF 1 hts gX12_keep_Jx4a65c_add_9ea2d_f50Jx4a65c rfl rfl rfl (hG.2.2.2.2.2.2.1 ((⟨"java/util/List", "add", "(Ljava/lang/Object;)Z"⟩ : MethodName), yJx4a65c_add_9ea2d) (List.mem_of_getElem? (i := 0) rfl)) (by decide +kernel) ⟨Nat.le_of_ble_eq_true rfl, Nat.le_of_ble_eq_true rfl⟩) ⟨xBlind, va_recv hK hPc (ci := 4) (q0 := 0) rfl rfl, xCall hK hG hS hPc hDc hFc⟩ rfl rfl hl.1 rfl (lv_room (Nat.le_of_ble_eq_true rfl)) dX12_keep_11 ⟨Nat.le_of_ble_eq_true rfl, Nat.le_of_ble_eq_true rfl⟩) hS (fun q _ h => hFc q h) hFc (fun r_9 u t H locs ht hvm hw hB hz1 hk1 hS => ?_)
  subst hw
  rcases hB with ⟨q_3, hr_9, hP1, hD1⟩
  rw [ht] at hP1
  subst hr_9
  obtain ⟨hP, hD⟩ := va_join (wr := [(a1, .inr (17, [.int 0, .ref a2, .ref a3, .ref a4, .long 0])), (a2, .inl (T 2, 12, .inr (.inr (.inr (.inr (fun _ => none))))))]) (w1 := [(a3, .inr (4, [.int 1, .ref q_3, .int 1])), (q_1, .inl (T 2, 12, .inr (.inr (.inr (.inr (fun _ => none)))))), (q_3, .inl (T 4, 10, .inr (.inr (.inr (.inr (va_up (fun _ => none) (0 : Int32).toNatClampNeg (some q_1)))))))]) hP hD [2, 3] [0, 1] rfl rfl (by decide) (by decide) hk1 hFc hP1 hD1
  have hP : va_P (dC, dI) vwCl [(a1, .inr (17, [.int 0, .ref a2, .ref a3, .ref a4, .long 0])), (a2, .inl (T 2, 12, .inr (.inr (.inr (.inr (fun _ => none)))))), (a3, .inr (4, [.int 1, .ref q_3, .int 1])), (q_1, .inl (T 2, 12, .inr (.inr (.inr (.inr (fun _ => none)))))), (q_3, .inl (T 4, 10, .inr (.inr (.inr (.inr (va_up (fun _ => none) (0 : Int32).toNatClampNeg (some q_1)))))))] H := hP
  have hD : va_D A [(a1, .inr (17, [.int 0, .ref a2, .ref a3, .ref a4, .long 0])), (a2, .inl (T 2, 12, .inr (.inr (.inr (.inr (fun _ => none)))))), (a3, .inr (4, [.int 1, .ref q_3, .int 1])), (q_1, .inl (T 2, 12, .inr (.inr (.inr (.inr (fun _ => none)))))), (q_3, .inl (T 4, 10, .inr (.inr (.inr (.inr (va_up (fun _ => none) (0 : Int32).toNatClampNeg (some q_1)))))))] := hD
  clear hPc hDc hFc hP1 hD1 hk1 hz1 ht hvm
  refine lv_pop hx hb dX12_keep_16 rfl ?_
  refine lv_aload_n hx hb dX12_keep_17 rfl (lv_at hl 0 rfl) ?_
  refine va_get (D := (dC, dI)) (ci := 17) (v := .ref a3) (C := RX12) (T := TX12) (N := 5) hx hb hts hin_X12 hown hK hP 0 rfl rfl 2 (by decide) (hts (.fieldLink RX12 18 "NearestwardModel" "undos" "Ljava/util/List;") (by decide +kernel)) (fun _ h9 => h9) rfl dX12_keep_18 ?_
  have hPc := hP.sub (ws' := [(a3, .inr (4, [.int 1, .ref q_3, .int 1]))]) [2] rfl
  have hDc := hD.sub (ws' := [(a3, .inr (4, [.int 1, .ref q_3, .int 1]))]) [2] (by decide) rfl
  have hFc := va_free (wc := [(a3, .inr (4, [.int 1, .ref q_3, .int 1]))]) hD hS hA [2] rfl
  refine va_callFi (va_runF (As := []) (rest := []) (hK.1 4 _ rfl).2 ⟨hx, hb, hml, hown, hts⟩ (xcJx4a65c_size_8abf5 l hst dC dI T a3 q_3 H.size) (va_cwF 0 hts gX12_keep_Jx4a65c_size_8abf5_f56Jx4a65c rfl rfl rfl (hG.2.2.2.2.2.2.1 ((⟨"java/util/List", "size", "()I"⟩ : MethodName), yJx4a65c_size_8abf5) (List.mem_of_getElem? (i := 1) rfl)) (by decide +kernel) ⟨Nat.le_of_ble_eq_true rfl, Nat.le_of_ble_eq_true rfl⟩) ⟨xBlind, va_recv hK hPc (ci := 4) (q0 := 0) rfl rfl, xCall hK hG hS hPc hDc hFc⟩ rfl rfl hl.1 rfl (lv_room (Nat.le_of_ble_eq_true rfl)) dX12_keep_21 ⟨Nat.le_of_ble_eq_true rfl, Nat.le_of_ble_eq_true rfl⟩) hS (fun q _ h => hFc q h) hFc (fun r_9 u t H locs ht hvm hw hB hz1 hk1 hS => ?_)
  subst hw
  rcases hB with ⟨hr_9, hP1, hD1⟩
  rw [ht] at hP1
  subst hr_9
  obtain ⟨hP, hD⟩ := va_join (wr := [(a1, .inr (17, [.int 0, .ref a2, .ref a3, .ref a4, .long 0])), (a2, .inl (T 2, 12, .inr (.inr (.inr (.inr (fun _ => none)))))), (q_1, .inl (T 2, 12, .inr (.inr (.inr (.inr (fun _ => none)))))), (q_3, .inl (T 4, 10, .inr (.inr (.inr (.inr (va_up (fun _ => none) (0 : Int32).toNatClampNeg (some q_1)))))))]) (w1 := [(a3, .inr (4, [.int 1, .ref q_3, .int 1]))]) hP hD [2] [0, 1, 3, 4] rfl rfl (by decide) (by decide) hk1 hFc hP1 hD1
  have hP := hP.sub (ws' := [(a1, .inr (17, [.int 0, .ref a2, .ref a3, .ref a4, .long 0])), (a2, .inl (T 2, 12, .inr (.inr (.inr (.inr (fun _ => none)))))), (a3, .inr (4, [.int 1, .ref q_3, .int 1])), (q_1, .inl (T 2, 12, .inr (.inr (.inr (.inr (fun _ => none)))))), (q_3, .inl (T 4, 10, .inr (.inr (.inr (.inr (va_up (fun _ => none) (0 : Int32).toNatClampNeg (some q_1)))))))]) [0, 1, 4, 2, 3] rfl
  have hD := hD.sub (ws' := [(a1, .inr (17, [.int 0, .ref a2, .ref a3, .ref a4, .long 0])), (a2, .inl (T 2, 12, .inr (.inr (.inr (.inr (fun _ => none)))))), (a3, .inr (4, [.int 1, .ref q_3, .int 1])), (q_1, .inl (T 2, 12, .inr (.inr (.inr (.inr (fun _ => none)))))), (q_3, .inl (T 4, 10, .inr (.inr (.inr (.inr (va_up (fun _ => none) (0 : Int32).toNatClampNeg (some q_1)))))))]) [0, 1, 4, 2, 3] (by decide) rfl
  clear hPc hDc hFc hP1 hD1 hk1 hz1 ht hvm
  refine lv_bipush (v := 20) hx hb dX12_keep_26 (by decide) ?_
  refine lv_icmp_le (tgt := 42) hx hb dX12_keep_28 (by decide) (fun c_6 => ?_) (fun c_6 => absurd (by decide) c_6)
  have hP9 := hP.sub (ws' := [(a1, .inr (17, [.int 0, .ref a2, .ref a3, .ref a4, .long 0])), (a2, .inl (T 2, 12, .inr (.inr (.inr (.inr (fun _ => none)))))), (a3, .inr (4, [.int 1, .ref q_3, .int 1])), (q_3, .inl (T 4, 10, .inr (.inr (.inr (.inr (va_up (fun _ => none) (0 : Int32).toNatClampNeg (some q_1)))))))]) [0, 1, 2, 4] rfl
  have hD9 := hD.sub (ws' := [(a1, .inr (17, [.int 0, .ref a2, .ref a3, .ref a4, .long 0])), (a2, .inl (T 2, 12, .inr (.inr (.inr (.inr (fun _ => none)))))), (a3, .inr (4, [.int 1, .ref q_3, .int 1])), (q_3, .inl (T 4, 10, .inr (.inr (.inr (.inr (va_up (fun _ => none) (0 : Int32).toNatClampNeg (some q_1)))))))]) [0, 1, 2, 4] (by decide) rfl
  exact W.vret hx hb hr (fun t ht hW => ⟨⟨(), rfl, trivial, ⟨q_3, q_1, by rw [ht]; exact hP9, hD9⟩⟩, hS.F ht⟩) hS.2.2 dX12_keep_42
set_option maxHeartbeats 4000000 in
set_option maxRecDepth 100000 in
theorem xcX12_addPoint (l : Launch) (hst : l.stackTraces = false) (dC : Nat → ClassId) (dI : Nat → Nat → Nat) (T : Nat → ClassId) (a1 : Nat) (a2 : Nat) (a3 : Nat) (a4 : Nat) (sz : Nat) (p1 : Int32) (p2 : Int32) : Met l yX12_addPoint wsX12_addPoint ({ frames := 6, cells := 3, slots := 27, locals := 121 } : Room) (va_Pc [.ref a1, .int p1, .int p2] (fun U => xB dC dI T [(a1, .inr (17, [.int 0, .ref a2, .ref a3, .ref a4, .long 0])), (a2, .inl (T 2, 12, .inr (.inr (.inr (.inr (fun _ => none)))))), (a3, .inr (4, [.int 0, .ref (dI 1000 0), .int 0]))] sz U)) (va_Qi (fun (r u : Int32) => r = u) (fun (u : Int32) (t : State) => (((((p1.toInt64).toInt < -100) ∨ ((¬ ((p1.toInt64).toInt < -100)) ∧ (100 < (p1.toInt64).toInt))) ∨ (((¬ ((p1.toInt64).toInt < -100)) ∧ (¬ (100 < (p1.toInt64).toInt))) ∧ (((p2.toInt64).toInt < -100) ∨ ((¬ ((p2.toInt64).toInt < -100)) ∧ (100 < (p2.toInt64).toInt))))) ∧ 0 = u ∧ xE dC dI [(a1, .inr (17, [.int 1, .ref a2, .ref a3, .ref a4, .long 0]))] (va_A [(a1, .inr (17, [.int 0, .ref a2, .ref a3, .ref a4, .long 0])), (a2, .inl (T 2, 12, .inr (.inr (.inr (.inr (fun _ => none)))))), (a3, .inr (4, [.int 0, .ref (dI 1000 0), .int 0]))] sz) t) ∨ ((((¬ ((p1.toInt64).toInt < -100)) ∧ (¬ (100 < (p1.toInt64).toInt))) ∧ ((¬ ((p2.toInt64).toInt < -100)) ∧ (¬ (100 < (p2.toInt64).toInt)))) ∧ 0 = u ∧ xE dC dI [(a1, .inr (17, [.int 0, .ref a2, .ref a3, .ref a4, .long 0]))] (va_A [(a1, .inr (17, [.int 0, .ref a2, .ref a3, .ref a4, .long 0])), (a2, .inl (T 2, 12, .inr (.inr (.inr (.inr (fun _ => none)))))), (a3, .inr (4, [.int 0, .ref (dI 1000 0), .int 0]))] sz) t)) (va_A [(a1, .inr (17, [.int 0, .ref a2, .ref a3, .ref a4, .long 0])), (a2, .inl (T 2, 12, .inr (.inr (.inr (.inr (fun _ => none)))))), (a3, .inr (4, [.int 0, .ref (dI 1000 0), .int 0]))] sz)) 3 27 (va_A [(a1, .inr (17, [.int 0, .ref a2, .ref a3, .ref a4, .long 0])), (a2, .inl (T 2, 12, .inr (.inr (.inr (.inr (fun _ => none)))))), (a3, .inr (4, [.int 0, .ref (dI 1000 0), .int 0]))] sz) := by
  refine Met.ofW (cc := cX12_addPoint) (maxL := 4) (ret := (some .int)) (by decide +kernel) rfl ?_
  intro p e s m args below meth c s₁ B hml hv
  obtain ⟨rfl, hsz, hP, hK, hD0, hG⟩ := hv
  have hx := B.exec
  have hb := B.bytes
  have hr := B.returns
  have hts := atoms_spec (ws := wsX12_addPoint) B.pre
  have hown : s.vm.findClass RX12 = some m.cls := findClass_of_methodNamed B.named
  have hlocks := B.notSynchronized
  have hin_X12 : ∀ w ∈ wsX120, w ∈ wsX12_addPoint := by decide +kernel
  subst hsz
  have hD := hD0.self (sz := s.heap.size)
  generalize hAe : va_A [(a1, .inr (17, [.int 0, .ref a2, .ref a3, .ref a4, .long 0])), (a2, .inl (T 2, 12, .inr (.inr (.inr (.inr (fun _ => none)))))), (a3, .inr (4, [.int 0, .ref (dI 1000 0), .int 0]))] s.heap.size = A at hD hG ⊢
  have hA : ∀ q : Nat, s.heap.size ≤ q → A q := fun q h => by rw [← hAe]; exact Or.inr h
  have hS : va_S A s.heap s.heap [] := va_S.rf
  have hl := lv_entry ([.ref a1, .int p1, .int p2]) (n := 4) (Nat.le_of_ble_eq_true rfl)
  rw [lg_entry_eq]
  generalize (lg_sl ([.ref a1, .int p1, .int p2]) ++ List.replicate (4 - (lg_sl ([.ref a1, .int p1, .int p2])).length) Slot.unset).toArray = ls at hl ⊢
  have hl : lv_has ls 4 [(0, .ref a1), (1, .int p1), (2, .int p2)] := hl
  refine lv_aload_n hx hb dX12_addPoint_0 rfl (lv_at hl 0 rfl) ?_
  refine lv_iload_n hx hb dX12_addPoint_1 rfl (lv_at hl 1 rfl) ?_
  refine lv_iload_n hx hb dX12_addPoint_2 rfl (lv_at hl 2 rfl) ?_
  refine lv_bipush (v := 100) hx hb dX12_addPoint_3 (by decide) ?_
  have hPc := hP.sub (ws' := []) [] rfl
  have hDc := hD.sub (ws' := []) [] (by decide) rfl
  have hFc := va_free (wc := []) hD hS hA [] rfl
  refine va_calli (va_runS (As := [.int p1, .int p2, .int 100]) (rest := [.ref a1]) ⟨hx, hb, hml, hown, hts⟩ (xcX12_isPlace l hst dC dI T s.heap.size p1 p2) (cwS 3 hts gX12_addPoint_X12_isPlace rfl rfl rfl (by decide +kernel) ⟨Nat.le_of_ble_eq_true rfl, Nat.le_of_ble_eq_true rfl⟩) ⟨xBlind, xCall hK hG hS hPc hDc hFc⟩ rfl rfl hl.1 rfl (lv_room (Nat.le_of_ble_eq_true rfl)) dX12_addPoint_5 ⟨Nat.le_of_ble_eq_true rfl, Nat.le_of_ble_eq_true rfl⟩) hS (fun q _ h => hFc q h) hFc (fun r_9 u t H locs ht hvm hw hB hz1 hk1 hS => ?_)
  subst hw
  rcases hB with ⟨c_1, hr_9, hP1, hD1⟩ | ⟨c_2, hr_9, hP1, hD1⟩
  · have hz_3 : (p1.toInt64).toInt = p1.toInt := Int32.toInt_toInt64 _
    have hz_4 : (p2.toInt64).toInt = p2.toInt := Int32.toInt_toInt64 _
    rw [ht] at hP1
    subst hr_9
    obtain ⟨hP, hD⟩ := va_join (wr := [(a1, .inr (17, [.int 0, .ref a2, .ref a3, .ref a4, .long 0])), (a2, .inl (T 2, 12, .inr (.inr (.inr (.inr (fun _ => none)))))), (a3, .inr (4, [.int 0, .ref (dI 1000 0), .int 0]))]) (w1 := []) hP hD [] [0, 1, 2] rfl rfl (by decide) (by decide) hk1 hFc hP1 hD1
    have hP : va_P (dC, dI) vwCl [(a1, .inr (17, [.int 0, .ref a2, .ref a3, .ref a4, .long 0])), (a2, .inl (T 2, 12, .inr (.inr (.inr (.inr (fun _ => none)))))), (a3, .inr (4, [.int 0, .ref (dI 1000 0), .int 0]))] H := hP
    have hD : va_D A [(a1, .inr (17, [.int 0, .ref a2, .ref a3, .ref a4, .long 0])), (a2, .inl (T 2, 12, .inr (.inr (.inr (.inr (fun _ => none)))))), (a3, .inr (4, [.int 0, .ref (dI 1000 0), .int 0]))] := hD
    clear hPc hDc hFc hP1 hD1 hk1 hz1 ht hvm
    refine lv_if_ne (tgt := 15) hx hb dX12_addPoint_8 (by decide) (fun c_5 => absurd c_5 (by decide)) (fun c_5 => ?_)
    refine lv_iconst (v := 1) hx hb dX12_addPoint_11 (by decide) ?_
    refine lv_goto (tgt := 43) hx hb dX12_addPoint_12 (by decide) ?_
    have hPc := hP.sub (ws' := [(a1, .inr (17, [.int 0, .ref a2, .ref a3, .ref a4, .long 0]))]) [0] rfl
    have hDc := hD.sub (ws' := [(a1, .inr (17, [.int 0, .ref a2, .ref a3, .ref a4, .long 0]))]) [0] (by decide) rfl
    have hFc := va_free (wc := [(a1, .inr (17, [.int 0, .ref a2, .ref a3, .ref a4, .long 0]))]) hD hS hA [0] rfl
    refine va_calli (va_runV (As := [.int 1]) (rest := []) ⟨hx, hb, hml, hown, hts⟩ (xcX12_isWrong l hst dC dI T a1 a2 a3 a4 H.size) (cwV 1 hts gX12_addPoint_X12_isWrong rfl rfl rfl (by decide +kernel) ⟨Nat.le_of_ble_eq_true rfl, Nat.le_of_ble_eq_true rfl⟩) ⟨xBlind, va_recv hK hPc (ci := 17) (q0 := 0) rfl rfl, xCall hK hG hS hPc hDc hFc⟩ rfl rfl hl.1 rfl (lv_room (Nat.le_of_ble_eq_true rfl)) dX12_addPoint_43 ⟨Nat.le_of_ble_eq_true rfl, Nat.le_of_ble_eq_true rfl⟩) hS (fun q _ h => hFc q h) hFc (fun r_9 u t H locs ht hvm hw hB hz1 hk1 hS => ?_)
    subst hw
    rcases hB with ⟨hr_9, hP1, hD1⟩
    rw [ht] at hP1
    subst hr_9
    obtain ⟨hP, hD⟩ := va_join (wr := [(a2, .inl (T 2, 12, .inr (.inr (.inr (.inr (fun _ => none)))))), (a3, .inr (4, [.int 0, .ref (dI 1000 0), .int 0]))]) (w1 := [(a1, .inr (17, [.int 1, .ref a2, .ref a3, .ref a4, .long 0]))]) hP hD [0] [1, 2] rfl rfl (by decide) (by decide) hk1 hFc hP1 hD1
    have hP := hP.sub (ws' := [(a1, .inr (17, [.int 1, .ref a2, .ref a3, .ref a4, .long 0])), (a2, .inl (T 2, 12, .inr (.inr (.inr (.inr (fun _ => none)))))), (a3, .inr (4, [.int 0, .ref (dI 1000 0), .int 0]))]) [2, 0, 1] rfl
    have hD := hD.sub (ws' := [(a1, .inr (17, [.int 1, .ref a2, .ref a3, .ref a4, .long 0])), (a2, .inl (T 2, 12, .inr (.inr (.inr (.inr (fun _ => none)))))), (a3, .inr (4, [.int 0, .ref (dI 1000 0), .int 0]))]) [2, 0, 1] (by decide) rfl
    clear hPc hDc hFc hP1 hD1 hk1 hz1 ht hvm
    refine lv_if_eq (tgt := 51) hx hb dX12_addPoint_46 (by decide) (fun c_7 => absurd c_7 (by decide)) (fun c_7 => ?_)
    refine lv_iconst (v := 0) hx hb dX12_addPoint_49 (by decide) ?_
    have hP9 := hP.sub (ws' := [(a1, .inr (17, [.int 1, .ref a2, .ref a3, .ref a4, .long 0]))]) [0] rfl
    have hD9 := hD.sub (ws' := [(a1, .inr (17, [.int 1, .ref a2, .ref a3, .ref a4, .long 0]))]) [0] (by decide) rfl
    refine W.widen (k := 3) (n := 27) (Nat.le_of_ble_eq_true rfl) (Nat.le_of_ble_eq_true rfl) ?_
    exact W.iret (v := 0) hx hb hr (fun t ht hW => ⟨⟨_, _, rfl, rfl, (Or.inl ⟨c_1, rfl, by rw [ht]; exact hP9, hD9⟩)⟩, hS.F ht⟩) hS.2.2 dX12_addPoint_50
  · have hz_8 : (p1.toInt64).toInt = p1.toInt := Int32.toInt_toInt64 _
    have hz_9 : (p2.toInt64).toInt = p2.toInt := Int32.toInt_toInt64 _
    rw [ht] at hP1
    subst hr_9
    obtain ⟨hP, hD⟩ := va_join (wr := [(a1, .inr (17, [.int 0, .ref a2, .ref a3, .ref a4, .long 0])), (a2, .inl (T 2, 12, .inr (.inr (.inr (.inr (fun _ => none)))))), (a3, .inr (4, [.int 0, .ref (dI 1000 0), .int 0]))]) (w1 := []) hP hD [] [0, 1, 2] rfl rfl (by decide) (by decide) hk1 hFc hP1 hD1
    have hP : va_P (dC, dI) vwCl [(a1, .inr (17, [.int 0, .ref a2, .ref a3, .ref a4, .long 0])), (a2, .inl (T 2, 12, .inr (.inr (.inr (.inr (fun _ => none)))))), (a3, .inr (4, [.int 0, .ref (dI 1000 0), .int 0]))] H := hP
    have hD : va_D A [(a1, .inr (17, [.int 0, .ref a2, .ref a3, .ref a4, .long 0])), (a2, .inl (T 2, 12, .inr (.inr (.inr (.inr (fun _ => none)))))), (a3, .inr (4, [.int 0, .ref (dI 1000 0), .int 0]))] := hD
    clear hPc hDc hFc hP1 hD1 hk1 hz1 ht hvm
    refine lv_if_ne (tgt := 15) hx hb dX12_addPoint_8 (by decide) (fun c_10 => ?_) (fun c_10 => absurd c_10 (by decide))
    refine lv_aload_n hx hb dX12_addPoint_15 rfl (lv_at hl 0 rfl) ?_
    refine lv_iload_n hx hb dX12_addPoint_16 rfl (lv_at hl 1 rfl) ?_
    refine lv_iload_n hx hb dX12_addPoint_17 rfl (lv_at hl 2 rfl) ?_
    have hPc := hP.sub (ws' := [(a1, .inr (17, [.int 0, .ref a2, .ref a3, .ref a4, .long 0])), (a2, .inl (T 2, 12, .inr (.inr (.inr (.inr (fun _ => none))))))]) [0, 1] rfl
    have hDc := hD.sub (ws' := [(a1, .inr (17, [.int 0, .ref a2, .ref a3, .ref a4, .long 0])), (a2, .inl (T 2, 12, .inr (.inr (.inr (.inr (fun _ => none))))))]) [0, 1] (by decide) rfl
    have hFc := va_free (wc := [(a1, .inr (17, [.int 0, .ref a2, .ref a3, .ref a4, .long 0])), (a2, .inl (T 2, 12, .inr (.inr (.inr (.inr (fun _ => none))))))]) hD hS hA [0, 1] rfl
    refine va_calli (va_runV (As := [.int p1, .int p2]) (rest := [.ref a1]) ⟨hx, hb, hml, hown, hts⟩ (xcX12_at l hst dC dI T a1 a2 a3 a4 H.size p1 p2) (cwV 2 hts gX12_addPoint_X12_at rfl rfl rfl (by decide +kernel) ⟨Nat.le_of_ble_eq_true rfl, Nat.le_of_ble_eq_true rfl⟩) ⟨xBlind, va_recv hK hPc (ci := 17) (q0 := 0) rfl rfl, xCall hK hG hS hPc hDc hFc⟩ rfl rfl hl.1 rfl (lv_room (Nat.le_of_ble_eq_true rfl)) dX12_addPoint_18 ⟨Nat.le_of_ble_eq_true rfl, Nat.le_of_ble_eq_true rfl⟩) hS (fun q _ h => hFc q h) hFc (fun r_9 u t H locs ht hvm hw hB hz1 hk1 hS => ?_)
    subst hw
    rcases hB with ⟨hr_9, hP1, hD1⟩
    rw [ht] at hP1
    subst hr_9
    obtain ⟨hP, hD⟩ := va_join (wr := [(a3, .inr (4, [.int 0, .ref (dI 1000 0), .int 0]))]) (w1 := [(a1, .inr (17, [.int 0, .ref a2, .ref a3, .ref a4, .long 0])), (a2, .inl (T 2, 12, .inr (.inr (.inr (.inr (fun _ => none))))))]) hP hD [0, 1] [2] rfl rfl (by decide) (by decide) hk1 hFc hP1 hD1
    have hP := hP.sub (ws' := [(a1, .inr (17, [.int 0, .ref a2, .ref a3, .ref a4, .long 0])), (a2, .inl (T 2, 12, .inr (.inr (.inr (.inr (fun _ => none)))))), (a3, .inr (4, [.int 0, .ref (dI 1000 0), .int 0]))]) [1, 2, 0] rfl
    have hD := hD.sub (ws' := [(a1, .inr (17, [.int 0, .ref a2, .ref a3, .ref a4, .long 0])), (a2, .inl (T 2, 12, .inr (.inr (.inr (.inr (fun _ => none)))))), (a3, .inr (4, [.int 0, .ref (dI 1000 0), .int 0]))]) [1, 2, 0] (by decide) rfl
    clear hPc hDc hFc hP1 hD1 hk1 hz1 ht hvm
    refine lv_iconst (v := (-1)) hx hb dX12_addPoint_21 (by decide) ?_
    refine lv_icmp_eq (tgt := 29) hx hb dX12_addPoint_22 (by decide) (fun c_12 => ?_) (fun c_12 => absurd (by decide) c_12)
    refine lv_aload_n hx hb dX12_addPoint_29 rfl (lv_at hl 0 rfl) ?_
    have hPc := hP.sub (ws' := [(a1, .inr (17, [.int 0, .ref a2, .ref a3, .ref a4, .long 0])), (a2, .inl (T 2, 12, .inr (.inr (.inr (.inr (fun _ => none))))))]) [0, 1] rfl
    have hDc := hD.sub (ws' := [(a1, .inr (17, [.int 0, .ref a2, .ref a3, .ref a4, .long 0])), (a2, .inl (T 2, 12, .inr (.inr (.inr (.inr (fun _ => none))))))]) [0, 1] (by decide) rfl
    have hFc := va_free (wc := [(a1, .inr (17, [.int 0, .ref a2, .ref a3, .ref a4, .long 0])), (a2, .inl (T 2, 12, .inr (.inr (.inr (.inr (fun _ => none))))))]) hD hS hA [0, 1] rfl
    refine va_calli (va_runV (As := []) (rest := [.ref a1]) ⟨hx, hb, hml, hown, hts⟩ (xcX12_many l hst dC dI T a1 a2 a3 a4 H.size) (cwV 0 hts gX12_addPoint_X12_many rfl rfl rfl (by decide +kernel) ⟨Nat.le_of_ble_eq_true rfl, Nat.le_of_ble_eq_true rfl⟩) ⟨xBlind, va_recv hK hPc (ci := 17) (q0 := 0) rfl rfl, xCall hK hG hS hPc hDc hFc⟩ rfl rfl hl.1 rfl (lv_room (Nat.le_of_ble_eq_true rfl)) dX12_addPoint_30 ⟨Nat.le_of_ble_eq_true rfl, Nat.le_of_ble_eq_true rfl⟩) hS (fun q _ h => hFc q h) hFc (fun r_9 u t H locs ht hvm hw hB hz1 hk1 hS => ?_)
    subst hw
    rcases hB with ⟨hr_9, hP1, hD1⟩
    rw [ht] at hP1
    subst hr_9
    obtain ⟨hP, hD⟩ := va_join (wr := [(a3, .inr (4, [.int 0, .ref (dI 1000 0), .int 0]))]) (w1 := [(a1, .inr (17, [.int 0, .ref a2, .ref a3, .ref a4, .long 0])), (a2, .inl (T 2, 12, .inr (.inr (.inr (.inr (fun _ => none))))))]) hP hD [0, 1] [2] rfl rfl (by decide) (by decide) hk1 hFc hP1 hD1
    have hP := hP.sub (ws' := [(a1, .inr (17, [.int 0, .ref a2, .ref a3, .ref a4, .long 0])), (a2, .inl (T 2, 12, .inr (.inr (.inr (.inr (fun _ => none)))))), (a3, .inr (4, [.int 0, .ref (dI 1000 0), .int 0]))]) [1, 2, 0] rfl
    have hD := hD.sub (ws' := [(a1, .inr (17, [.int 0, .ref a2, .ref a3, .ref a4, .long 0])), (a2, .inl (T 2, 12, .inr (.inr (.inr (.inr (fun _ => none)))))), (a3, .inr (4, [.int 0, .ref (dI 1000 0), .int 0]))]) [1, 2, 0] (by decide) rfl
    clear hPc hDc hFc hP1 hD1 hk1 hz1 ht hvm
    refine lv_bipush (v := 12) hx hb dX12_addPoint_33 (by decide) ?_
    refine lv_icmp_ne (tgt := 42) hx hb dX12_addPoint_35 (by decide) (fun c_14 => ?_) (fun c_14 => absurd c_14 (by decide))
    refine lv_iconst (v := 0) hx hb dX12_addPoint_42 (by decide) ?_
    have hPc := hP.sub (ws' := [(a1, .inr (17, [.int 0, .ref a2, .ref a3, .ref a4, .long 0]))]) [0] rfl
    have hDc := hD.sub (ws' := [(a1, .inr (17, [.int 0, .ref a2, .ref a3, .ref a4, .long 0]))]) [0] (by decide) rfl
    have hFc := va_free (wc := [(a1, .inr (17, [.int 0, .ref a2, .ref a3, .ref a4, .long 0]))]) hD hS hA [0] rfl
    refine va_calli (va_runV (As := [.int 0]) (rest := []) ⟨hx, hb, hml, hown, hts⟩ (xcX12_isWrong_v2 l hst dC dI T a1 a2 a3 a4 H.size) (cwV 1 hts gX12_addPoint_X12_isWrong rfl rfl rfl (by decide +kernel) ⟨Nat.le_of_ble_eq_true rfl, Nat.le_of_ble_eq_true rfl⟩) ⟨xBlind, va_recv hK hPc (ci := 17) (q0 := 0) rfl rfl, xCall hK hG hS hPc hDc hFc⟩ rfl rfl hl.1 rfl (lv_room (Nat.le_of_ble_eq_true rfl)) dX12_addPoint_43 ⟨Nat.le_of_ble_eq_true rfl, Nat.le_of_ble_eq_true rfl⟩) hS (fun q _ h => hFc q h) hFc (fun r_9 u t H locs ht hvm hw hB hz1 hk1 hS => ?_)
    subst hw
    rcases hB with ⟨hr_9, hP1, hD1⟩
    rw [ht] at hP1
    subst hr_9
    obtain ⟨hP, hD⟩ := va_join (wr := [(a2, .inl (T 2, 12, .inr (.inr (.inr (.inr (fun _ => none)))))), (a3, .inr (4, [.int 0, .ref (dI 1000 0), .int 0]))]) (w1 := [(a1, .inr (17, [.int 0, .ref a2, .ref a3, .ref a4, .long 0]))]) hP hD [0] [1, 2] rfl rfl (by decide) (by decide) hk1 hFc hP1 hD1
    have hP := hP.sub (ws' := [(a1, .inr (17, [.int 0, .ref a2, .ref a3, .ref a4, .long 0])), (a2, .inl (T 2, 12, .inr (.inr (.inr (.inr (fun _ => none)))))), (a3, .inr (4, [.int 0, .ref (dI 1000 0), .int 0]))]) [2, 0, 1] rfl
    have hD := hD.sub (ws' := [(a1, .inr (17, [.int 0, .ref a2, .ref a3, .ref a4, .long 0])), (a2, .inl (T 2, 12, .inr (.inr (.inr (.inr (fun _ => none)))))), (a3, .inr (4, [.int 0, .ref (dI 1000 0), .int 0]))]) [2, 0, 1] (by decide) rfl
    clear hPc hDc hFc hP1 hD1 hk1 hz1 ht hvm
    refine lv_if_eq (tgt := 51) hx hb dX12_addPoint_46 (by decide) (fun c_16 => ?_) (fun c_16 => absurd (by decide) c_16)
    refine lv_aload_n hx hb dX12_addPoint_51 rfl (lv_at hl 0 rfl) ?_
    have hPc := hP.sub (ws' := [(a1, .inr (17, [.int 0, .ref a2, .ref a3, .ref a4, .long 0])), (a2, .inl (T 2, 12, .inr (.inr (.inr (.inr (fun _ => none)))))), (a3, .inr (4, [.int 0, .ref (dI 1000 0), .int 0]))]) [0, 1, 2] rfl
    have hDc := hD.sub (ws' := [(a1, .inr (17, [.int 0, .ref a2, .ref a3, .ref a4, .long 0])), (a2, .inl (T 2, 12, .inr (.inr (.inr (.inr (fun _ => none)))))), (a3, .inr (4, [.int 0, .ref (dI 1000 0), .int 0]))]) [0, 1, 2] (by decide) rfl
    have hFc := va_free (wc := [(a1, .inr (17, [.int 0, .ref a2, .ref a3, .ref a4, .long 0])), (a2, .inl (T 2, 12, .inr (.inr (.inr (.inr (fun _ => none)))))), (a3, .inr (4, [.int 0, .ref (dI 1000 0), .int 0]))]) hD hS hA [0, 1, 2] rfl
    refine va_callv (va_runV (As := []) (rest := []) ⟨hx, hb, hml, hown, hts⟩ (xcX12_keep l hst dC dI T a1 a2 a3 a4 H.size) (cwV 0 hts gX12_addPoint_X12_keep rfl rfl rfl (by decide +kernel) ⟨Nat.le_of_ble_eq_true rfl, Nat.le_of_ble_eq_true rfl⟩) ⟨xBlind, va_recv hK hPc (ci := 17) (q0 := 0) rfl rfl, xCall hK hG hS hPc hDc hFc⟩ rfl rfl hl.1 rfl (lv_room (Nat.le_of_ble_eq_true rfl)) dX12_addPoint_52 ⟨Nat.le_of_ble_eq_true rfl, Nat.le_of_ble_eq_true rfl⟩) hS (fun q _ h => hFc q h) hFc (fun u t H locs ht hvm hw hB hz1 hk1 hS => ?_)
    rcases hB with ⟨q_17, q_18, hP1, hD1⟩
    rw [ht] at hP1
    obtain ⟨hP, hD⟩ := va_join (wr := []) (w1 := [(a1, .inr (17, [.int 0, .ref a2, .ref a3, .ref a4, .long 0])), (a2, .inl (T 2, 12, .inr (.inr (.inr (.inr (fun _ => none)))))), (a3, .inr (4, [.int 1, .ref q_17, .int 1])), (q_17, .inl (T 4, 10, .inr (.inr (.inr (.inr (va_up (fun _ => none) (0 : Int32).toNatClampNeg (some q_18)))))))]) hP hD [0, 1, 2] [] rfl rfl (by decide) (by decide) hk1 hFc hP1 hD1
    have hP : va_P (dC, dI) vwCl [(a1, .inr (17, [.int 0, .ref a2, .ref a3, .ref a4, .long 0])), (a2, .inl (T 2, 12, .inr (.inr (.inr (.inr (fun _ => none)))))), (a3, .inr (4, [.int 1, .ref q_17, .int 1])), (q_17, .inl (T 4, 10, .inr (.inr (.inr (.inr (va_up (fun _ => none) (0 : Int32).toNatClampNeg (some q_18)))))))] H := hP
    have hD : va_D A [(a1, .inr (17, [.int 0, .ref a2, .ref a3, .ref a4, .long 0])), (a2, .inl (T 2, 12, .inr (.inr (.inr (.inr (fun _ => none)))))), (a3, .inr (4, [.int 1, .ref q_17, .int 1])), (q_17, .inl (T 4, 10, .inr (.inr (.inr (.inr (va_up (fun _ => none) (0 : Int32).toNatClampNeg (some q_18)))))))] := hD
    clear hPc hDc hFc hP1 hD1 hk1 hz1 ht hvm
    refine lv_iconst (v := 0) hx hb dX12_addPoint_55 (by decide) ?_
    refine lv_istore_n (lv' := [(3, .int 0), (0, .ref a1), (1, .int p1), (2, .int p2)]) hx hb dX12_addPoint_56 rfl hl (by decide) rfl (fun ls hl => ?_)
    refine lv_aload_n hx hb dX12_addPoint_57 rfl (lv_at hl 1 rfl) ?_
    refine va_get (D := (dC, dI)) (ci := 17) (v := .ref a2) (C := RX12) (T := TX12) (N := 5) hx hb hts hin_X12 hown hK hP 0 rfl rfl 1 (by decide) (hts (.fieldLink RX12 11 "NearestwardModel" "points" "[[I") (by decide +kernel)) (fun _ h9 => h9) rfl dX12_addPoint_58 ?_
    refine lv_iload_n hx hb dX12_addPoint_61 rfl (lv_at hl 0 rfl) ?_
    refine xAldq hx hb hK hP 1 2 rfl rfl (show vp_in 0 12 by unfold vp_in; decide) dX12_addPoint_62 ?_
    refine lv_ifnullN (tgt := 72) hx hb dX12_addPoint_63 (by decide) ?_
    refine lv_aload_n hx hb dX12_addPoint_72 rfl (lv_at hl 1 rfl) ?_
    refine va_get (D := (dC, dI)) (ci := 17) (v := .ref a2) (C := RX12) (T := TX12) (N := 5) hx hb hts hin_X12 hown hK hP 0 rfl rfl 1 (by decide) (hts (.fieldLink RX12 11 "NearestwardModel" "points" "[[I") (by decide +kernel)) (fun _ h9 => h9) rfl dX12_addPoint_73 ?_
    refine lv_iload_n hx hb dX12_addPoint_76 rfl (lv_at hl 0 rfl) ?_
    refine lv_iconst (v := 5) hx hb dX12_addPoint_77 (by decide) ?_
    refine xNewa (atype := .int) (ty := .int) (N' := 5) (a0 := (5, .inl (fun _ => 0))) 0 rfl hx hb (hts (.arrayClass .int) (by decide +kernel)) rfl hK hP hD hS hA (fun _ => rfl) (by decide) (by decide) (by decide) (Nat.le_of_ble_eq_true rfl) (Nat.le_of_ble_eq_true rfl) dX12_addPoint_78 (fun q_20 H hP hD hS => ?_)
    have hP : va_P (dC, dI) vwCl [(a1, .inr (17, [.int 0, .ref a2, .ref a3, .ref a4, .long 0])), (a2, .inl (T 2, 12, .inr (.inr (.inr (.inr (fun _ => none)))))), (a3, .inr (4, [.int 1, .ref q_17, .int 1])), (q_17, .inl (T 4, 10, .inr (.inr (.inr (.inr (va_up (fun _ => none) (0 : Int32).toNatClampNeg (some q_18))))))), (q_20, .inl (T 0, 5, .inl (fun _ => 0)))] H := hP
    have hD : va_D A [(a1, .inr (17, [.int 0, .ref a2, .ref a3, .ref a4, .long 0])), (a2, .inl (T 2, 12, .inr (.inr (.inr (.inr (fun _ => none)))))), (a3, .inr (4, [.int 1, .ref q_17, .int 1])), (q_17, .inl (T 4, 10, .inr (.inr (.inr (.inr (va_up (fun _ => none) (0 : Int32).toNatClampNeg (some q_18))))))), (q_20, .inl (T 0, 5, .inl (fun _ => 0)))] := hD
    refine W.widen (k := 3) (n := 27) (by omega) (by omega) ?_
    refine lv_dup hx hb dX12_addPoint_80 rfl ?_
    refine lv_iconst (v := 0) hx hb dX12_addPoint_81 (by decide) ?_
    refine lv_iload_n hx hb dX12_addPoint_82 rfl (lv_at hl 2 rfl) ?_
    refine va_iast hx hb hK hP hD hS 4 0 rfl rfl (show vp_in 0 5 by unfold vp_in; decide) dX12_addPoint_83 (fun H locs hP hD hS => ?_)
    have hP : va_P (dC, dI) vwCl [(a1, .inr (17, [.int 0, .ref a2, .ref a3, .ref a4, .long 0])), (a2, .inl (T 2, 12, .inr (.inr (.inr (.inr (fun _ => none)))))), (a3, .inr (4, [.int 1, .ref q_17, .int 1])), (q_17, .inl (T 4, 10, .inr (.inr (.inr (.inr (va_up (fun _ => none) (0 : Int32).toNatClampNeg (some q_18))))))), (q_20, .inl (T 0, 5, .inl (upd (fun _ => 0) (0 : Int32).toNatClampNeg p1)))] H := hP
    have hD : va_D A [(a1, .inr (17, [.int 0, .ref a2, .ref a3, .ref a4, .long 0])), (a2, .inl (T 2, 12, .inr (.inr (.inr (.inr (fun _ => none)))))), (a3, .inr (4, [.int 1, .ref q_17, .int 1])), (q_17, .inl (T 4, 10, .inr (.inr (.inr (.inr (va_up (fun _ => none) (0 : Int32).toNatClampNeg (some q_18))))))), (q_20, .inl (T 0, 5, .inl (upd (fun _ => 0) (0 : Int32).toNatClampNeg p1)))] := hD
    refine lv_dup hx hb dX12_addPoint_84 rfl ?_
    refine lv_iconst (v := 1) hx hb dX12_addPoint_85 (by decide) ?_
    refine lv_iload_n hx hb dX12_addPoint_86 rfl (lv_at hl 3 rfl) ?_
    refine va_iast hx hb hK hP hD hS 4 0 rfl rfl (show vp_in 1 5 by unfold vp_in; decide) dX12_addPoint_87 (fun H locs hP hD hS => ?_)
    have hP : va_P (dC, dI) vwCl [(a1, .inr (17, [.int 0, .ref a2, .ref a3, .ref a4, .long 0])), (a2, .inl (T 2, 12, .inr (.inr (.inr (.inr (fun _ => none)))))), (a3, .inr (4, [.int 1, .ref q_17, .int 1])), (q_17, .inl (T 4, 10, .inr (.inr (.inr (.inr (va_up (fun _ => none) (0 : Int32).toNatClampNeg (some q_18))))))), (q_20, .inl (T 0, 5, .inl (upd (upd (fun _ => 0) (0 : Int32).toNatClampNeg p1) (1 : Int32).toNatClampNeg p2)))] H := hP
    have hD : va_D A [(a1, .inr (17, [.int 0, .ref a2, .ref a3, .ref a4, .long 0])), (a2, .inl (T 2, 12, .inr (.inr (.inr (.inr (fun _ => none)))))), (a3, .inr (4, [.int 1, .ref q_17, .int 1])), (q_17, .inl (T 4, 10, .inr (.inr (.inr (.inr (va_up (fun _ => none) (0 : Int32).toNatClampNeg (some q_18))))))), (q_20, .inl (T 0, 5, .inl (upd (upd (fun _ => 0) (0 : Int32).toNatClampNeg p1) (1 : Int32).toNatClampNeg p2)))] := hD
    refine lv_dup hx hb dX12_addPoint_88 rfl ?_
    refine lv_iconst (v := 2) hx hb dX12_addPoint_89 (by decide) ?_
    refine lv_iconst (v := 0) hx hb dX12_addPoint_90 (by decide) ?_
    refine va_iast hx hb hK hP hD hS 4 0 rfl rfl (show vp_in 2 5 by unfold vp_in; decide) dX12_addPoint_91 (fun H locs hP hD hS => ?_)
    have hP : va_P (dC, dI) vwCl [(a1, .inr (17, [.int 0, .ref a2, .ref a3, .ref a4, .long 0])), (a2, .inl (T 2, 12, .inr (.inr (.inr (.inr (fun _ => none)))))), (a3, .inr (4, [.int 1, .ref q_17, .int 1])), (q_17, .inl (T 4, 10, .inr (.inr (.inr (.inr (va_up (fun _ => none) (0 : Int32).toNatClampNeg (some q_18))))))), (q_20, .inl (T 0, 5, .inl (upd (upd (upd (fun _ => 0) (0 : Int32).toNatClampNeg p1) (1 : Int32).toNatClampNeg p2) (2 : Int32).toNatClampNeg 0)))] H := hP
    have hD : va_D A [(a1, .inr (17, [.int 0, .ref a2, .ref a3, .ref a4, .long 0])), (a2, .inl (T 2, 12, .inr (.inr (.inr (.inr (fun _ => none)))))), (a3, .inr (4, [.int 1, .ref q_17, .int 1])), (q_17, .inl (T 4, 10, .inr (.inr (.inr (.inr (va_up (fun _ => none) (0 : Int32).toNatClampNeg (some q_18))))))), (q_20, .inl (T 0, 5, .inl (upd (upd (upd (fun _ => 0) (0 : Int32).toNatClampNeg p1) (1 : Int32).toNatClampNeg p2) (2 : Int32).toNatClampNeg 0)))] := hD
    refine lv_dup hx hb dX12_addPoint_92 rfl ?_
    refine lv_iconst (v := 3) hx hb dX12_addPoint_93 (by decide) ?_
    refine lv_iconst (v := 0) hx hb dX12_addPoint_94 (by decide) ?_
    refine va_iast hx hb hK hP hD hS 4 0 rfl rfl (show vp_in 3 5 by unfold vp_in; decide) dX12_addPoint_95 (fun H locs hP hD hS => ?_)
    have hP : va_P (dC, dI) vwCl [(a1, .inr (17, [.int 0, .ref a2, .ref a3, .ref a4, .long 0])), (a2, .inl (T 2, 12, .inr (.inr (.inr (.inr (fun _ => none)))))), (a3, .inr (4, [.int 1, .ref q_17, .int 1])), (q_17, .inl (T 4, 10, .inr (.inr (.inr (.inr (va_up (fun _ => none) (0 : Int32).toNatClampNeg (some q_18))))))), (q_20, .inl (T 0, 5, .inl (upd (upd (upd (upd (fun _ => 0) (0 : Int32).toNatClampNeg p1) (1 : Int32).toNatClampNeg p2) (2 : Int32).toNatClampNeg 0) (3 : Int32).toNatClampNeg 0)))] H := hP
    have hD : va_D A [(a1, .inr (17, [.int 0, .ref a2, .ref a3, .ref a4, .long 0])), (a2, .inl (T 2, 12, .inr (.inr (.inr (.inr (fun _ => none)))))), (a3, .inr (4, [.int 1, .ref q_17, .int 1])), (q_17, .inl (T 4, 10, .inr (.inr (.inr (.inr (va_up (fun _ => none) (0 : Int32).toNatClampNeg (some q_18))))))), (q_20, .inl (T 0, 5, .inl (upd (upd (upd (upd (fun _ => 0) (0 : Int32).toNatClampNeg p1) (1 : Int32).toNatClampNeg p2) (2 : Int32).toNatClampNeg 0) (3 : Int32).toNatClampNeg 0)))] := hD
    refine lv_dup hx hb dX12_addPoint_96 rfl ?_
    refine lv_iconst (v := 4) hx hb dX12_addPoint_97 (by decide) ?_
    refine lv_iconst (v := 0) hx hb dX12_addPoint_98 (by decide) ?_
    refine va_iast hx hb hK hP hD hS 4 0 rfl rfl (show vp_in 4 5 by unfold vp_in; decide) dX12_addPoint_99 (fun H locs hP hD hS => ?_)
    have hP : va_P (dC, dI) vwCl [(a1, .inr (17, [.int 0, .ref a2, .ref a3, .ref a4, .long 0])), (a2, .inl (T 2, 12, .inr (.inr (.inr (.inr (fun _ => none)))))), (a3, .inr (4, [.int 1, .ref q_17, .int 1])), (q_17, .inl (T 4, 10, .inr (.inr (.inr (.inr (va_up (fun _ => none) (0 : Int32).toNatClampNeg (some q_18))))))), (q_20, .inl (T 0, 5, .inl (upd (upd (upd (upd (upd (fun _ => 0) (0 : Int32).toNatClampNeg p1) (1 : Int32).toNatClampNeg p2) (2 : Int32).toNatClampNeg 0) (3 : Int32).toNatClampNeg 0) (4 : Int32).toNatClampNeg 0)))] H := hP
    have hD : va_D A [(a1, .inr (17, [.int 0, .ref a2, .ref a3, .ref a4, .long 0])), (a2, .inl (T 2, 12, .inr (.inr (.inr (.inr (fun _ => none)))))), (a3, .inr (4, [.int 1, .ref q_17, .int 1])), (q_17, .inl (T 4, 10, .inr (.inr (.inr (.inr (va_up (fun _ => none) (0 : Int32).toNatClampNeg (some q_18))))))), (q_20, .inl (T 0, 5, .inl (upd (upd (upd (upd (upd (fun _ => 0) (0 : Int32).toNatClampNeg p1) (1 : Int32).toNatClampNeg p2) (2 : Int32).toNatClampNeg 0) (3 : Int32).toNatClampNeg 0) (4 : Int32).toNatClampNeg 0)))] := hD
    refine xAstA (own := RX12) (q0 := 1) (qk := 4) (t0 := 2) hx hb hG.2.2.2.2.2.2.2.2.1 hK hP hD hS rfl rfl rfl rfl rfl (hK.2 0 _ rfl).2 (show vp_in 0 12 by unfold vp_in; decide) dX12_addPoint_100 (fun H locs hP hD hS => ?_)
    have hP : va_P (dC, dI) vwCl [(a1, .inr (17, [.int 0, .ref a2, .ref a3, .ref a4, .long 0])), (a2, .inl (T 2, 12, .inr (.inr (.inr (.inr (va_up (fun _ => none) (0 : Int32).toNatClampNeg (some q_20))))))), (a3, .inr (4, [.int 1, .ref q_17, .int 1])), (q_17, .inl (T 4, 10, .inr (.inr (.inr (.inr (va_up (fun _ => none) (0 : Int32).toNatClampNeg (some q_18))))))), (q_20, .inl (T 0, 5, .inl (upd (upd (upd (upd (upd (fun _ => 0) (0 : Int32).toNatClampNeg p1) (1 : Int32).toNatClampNeg p2) (2 : Int32).toNatClampNeg 0) (3 : Int32).toNatClampNeg 0) (4 : Int32).toNatClampNeg 0)))] H := hP
    have hD : va_D A [(a1, .inr (17, [.int 0, .ref a2, .ref a3, .ref a4, .long 0])), (a2, .inl (T 2, 12, .inr (.inr (.inr (.inr (va_up (fun _ => none) (0 : Int32).toNatClampNeg (some q_20))))))), (a3, .inr (4, [.int 1, .ref q_17, .int 1])), (q_17, .inl (T 4, 10, .inr (.inr (.inr (.inr (va_up (fun _ => none) (0 : Int32).toNatClampNeg (some q_18))))))), (q_20, .inl (T 0, 5, .inl (upd (upd (upd (upd (upd (fun _ => 0) (0 : Int32).toNatClampNeg p1) (1 : Int32).toNatClampNeg p2) (2 : Int32).toNatClampNeg 0) (3 : Int32).toNatClampNeg 0) (4 : Int32).toNatClampNeg 0)))] := hD
    refine lv_iload_n hx hb dX12_addPoint_101 rfl (lv_at hl 0 rfl) ?_
    have hP9 := hP.sub (ws' := [(a1, .inr (17, [.int 0, .ref a2, .ref a3, .ref a4, .long 0]))]) [0] rfl
    have hD9 := hD.sub (ws' := [(a1, .inr (17, [.int 0, .ref a2, .ref a3, .ref a4, .long 0]))]) [0] (by decide) rfl
    exact W.iret (v := 0) hx hb hr (fun t ht hW => ⟨⟨_, _, rfl, rfl, (Or.inr (⟨c_2, rfl, by rw [ht]; exact hP9, hD9⟩))⟩, hS.F ht⟩) hS.2.2 dX12_addPoint_102
set_option maxHeartbeats 4000000 in
set_option maxRecDepth 100000 in
theorem xcJx4a65c_size_8abf5_v2 (l : Launch) (hst : l.stackTraces = false) (dC : Nat → ClassId) (dI : Nat → Nat → Nat) (T : Nat → ClassId) (a1 : Nat) (sz : Nat) : Met l yJx4a65c_size_8abf5 wsJx4a65c_size_8abf5 ({ frames := 0, cells := 0, slots := 0, locals := 0 } : Room) (va_Pc [.ref a1] (fun U => xB dC dI T [(a1, .inr (4, [.int 0, .ref (dI 1000 0), .int 0]))] sz U)) (va_Qi (fun (r u : Int32) => r = u) (fun (u : Int32) (t : State) => 0 = u ∧ xE dC dI [(a1, .inr (4, [.int 0, .ref (dI 1000 0), .int 0]))] (va_A [(a1, .inr (4, [.int 0, .ref (dI 1000 0), .int 0]))] sz) t) (va_A [(a1, .inr (4, [.int 0, .ref (dI 1000 0), .int 0]))] sz)) 0 0 (va_A [(a1, .inr (4, [.int 0, .ref (dI 1000 0), .int 0]))] sz) := by
  refine Met.ofW (cc := cJx4a65c_size_8abf5) (maxL := 1) (ret := (some .int)) (by decide +kernel) rfl ?_
  intro p e s m args below meth c s₁ B hml hv
  obtain ⟨rfl, hsz, hP, hK, hD0, hG⟩ := hv
  have hx := B.exec
  have hb := B.bytes
  have hr := B.returns
  have hts := atoms_spec (ws := wsJx4a65c_size_8abf5) B.pre
  have hown : s.vm.findClass RJx4a65c = some m.cls := findClass_of_methodNamed B.named
  have hlocks := B.notSynchronized
  have hin_Jx4a65c : ∀ w ∈ wsJx4a65c0, w ∈ wsJx4a65c_size_8abf5 := by decide +kernel
  subst hsz
  have hD := hD0.self (sz := s.heap.size)
  generalize hAe : va_A [(a1, .inr (4, [.int 0, .ref (dI 1000 0), .int 0]))] s.heap.size = A at hD hG ⊢
  have hA : ∀ q : Nat, s.heap.size ≤ q → A q := fun q h => by rw [← hAe]; exact Or.inr h
  have hS : va_S A s.heap s.heap [] := va_S.rf
  have hl := lv_entry ([.ref a1]) (n := 1) (Nat.le_of_ble_eq_true rfl)
  rw [lg_entry_eq]
  generalize (lg_sl ([.ref a1]) ++ List.replicate (1 - (lg_sl ([.ref a1])).length) Slot.unset).toArray = ls at hl ⊢
  have hl : lv_has ls 1 [(0, .ref a1)] := hl
  refine lv_aload_n hx hb dJx4a65c_size_8abf5_0 rfl (lv_at hl 0 rfl) ?_
  refine va_get (D := (dC, dI)) (ci := 4) (v := .int 0) (C := RJx4a65c) (T := TJx4a65c) (N := 3) hx hb hts hin_Jx4a65c hown hK hP 0 rfl rfl 2 (by decide) (hts (.fieldLink RJx4a65c 48 "java/util/ArrayList" "size" "I") (by decide +kernel)) (fun _ h9 => h9) rfl dJx4a65c_size_8abf5_1 ?_
  have hP9 := hP.sub (ws' := [(a1, .inr (4, [.int 0, .ref (dI 1000 0), .int 0]))]) [0] rfl
  have hD9 := hD.sub (ws' := [(a1, .inr (4, [.int 0, .ref (dI 1000 0), .int 0]))]) [0] (by decide) rfl
  exact W.iret (v := 0) hx hb hr (fun t ht hW => ⟨⟨_, _, rfl, rfl, ⟨rfl, by rw [ht]; exact hP9, hD9⟩⟩, hS.F ht⟩) hS.2.2 dJx4a65c_size_8abf5_4
set_option maxHeartbeats 4000000 in
set_option maxRecDepth 100000 in
theorem xcJx4a65c_add_72be8_v2 (l : Launch) (hst : l.stackTraces = false) (dC : Nat → ClassId) (dI : Nat → Nat → Nat) (T : Nat → ClassId) (a1 : Nat) (a2 : Nat) (sz : Nat) (f4 : Nat → Int32) : Met l yJx4a65c_add_72be8 wsJx4a65c_add_72be8 ({ frames := 3, cells := 1, slots := 10, locals := 57 } : Room) (va_Pc [.ref a1, .ref a2, .ref (dI 1000 0), .int 0] (fun U => xB dC dI T [(a1, .inr (4, [.int 1, .ref (dI 1000 0), .int 0])), (a2, .inl (T 0, 4, .inl f4))] sz U)) (va_Qv (fun _ : Unit => True) (fun (_ : Unit) (t : State) => ∃ (q_2 : Nat), xE dC dI [(a1, .inr (4, [.int 1, .ref q_2, .int 1])), (a2, .inl (T 0, 4, .inl f4)), (q_2, .inl (T 4, 10, .inr (.inr (.inr (.inr (va_up (fun _ => none) (0 : Int32).toNatClampNeg (some a2)))))))] (va_A [(a1, .inr (4, [.int 1, .ref (dI 1000 0), .int 0])), (a2, .inl (T 0, 4, .inl f4))] sz) t) (va_A [(a1, .inr (4, [.int 1, .ref (dI 1000 0), .int 0])), (a2, .inl (T 0, 4, .inl f4))] sz)) 1 10 (va_A [(a1, .inr (4, [.int 1, .ref (dI 1000 0), .int 0])), (a2, .inl (T 0, 4, .inl f4))] sz) := by
  refine Met.ofW (cc := cJx4a65c_add_72be8) (maxL := 4) (ret := none) (by decide +kernel) rfl ?_
  intro p e s m args below meth c s₁ B hml hv
  obtain ⟨rfl, hsz, hP, hK, hD0, hG⟩ := hv
  have hx := B.exec
  have hb := B.bytes
  have hr := B.returns
  have hts := atoms_spec (ws := wsJx4a65c_add_72be8) B.pre
  have hown : s.vm.findClass RJx4a65c = some m.cls := findClass_of_methodNamed B.named
  have hlocks := B.notSynchronized
  have hin_Jx4a65c : ∀ w ∈ wsJx4a65c0, w ∈ wsJx4a65c_add_72be8 := by decide +kernel
  subst hsz
  have hD := hD0.self (sz := s.heap.size)
  generalize hAe : va_A [(a1, .inr (4, [.int 1, .ref (dI 1000 0), .int 0])), (a2, .inl (T 0, 4, .inl f4))] s.heap.size = A at hD hG ⊢
  have hA : ∀ q : Nat, s.heap.size ≤ q → A q := fun q h => by rw [← hAe]; exact Or.inr h
  have hS : va_S A s.heap s.heap [] := va_S.rf
  have hl := lv_entry ([.ref a1, .ref a2, .ref (dI 1000 0), .int 0]) (n := 4) (Nat.le_of_ble_eq_true rfl)
  rw [lg_entry_eq]
  generalize (lg_sl ([.ref a1, .ref a2, .ref (dI 1000 0), .int 0]) ++ List.replicate (4 - (lg_sl ([.ref a1, .ref a2, .ref (dI 1000 0), .int 0])).length) Slot.unset).toArray = ls at hl ⊢
  have hl : lv_has ls 4 [(0, .ref a1), (1, .ref a2), (2, .ref (dI 1000 0)), (3, .int 0)] := hl
  refine lv_iload_n hx hb dJx4a65c_add_72be8_0 rfl (lv_at hl 3 rfl) ?_
  refine lv_aload_n hx hb dJx4a65c_add_72be8_1 rfl (lv_at hl 2 rfl) ?_
  refine va_tlen (v := 0) hx hb hG.2.2.2.2.2.2.2.2.2.2.2.2.2 hS (by decide) dJx4a65c_add_72be8_2 ?_
  refine lv_icmp_ne (tgt := 11) hx hb dJx4a65c_add_72be8_3 (by decide) (fun c_1 => absurd c_1 (by decide)) (fun c_1 => ?_)
  refine lv_aload_n hx hb dJx4a65c_add_72be8_6 rfl (lv_at hl 0 rfl) ?_
  have hPc := hP.sub (ws' := [(a1, .inr (4, [.int 1, .ref (dI 1000 0), .int 0]))]) [0] rfl
  have hDc := hD.sub (ws' := [(a1, .inr (4, [.int 1, .ref (dI 1000 0), .int 0]))]) [0] (by decide) rfl
  have hFc := va_free (wc := [(a1, .inr (4, [.int 1, .ref (dI 1000 0), .int 0]))]) hD hS hA [0] rfl
  refine va_callr (va_runV (As := []) (rest := []) ⟨hx, hb, hml, hown, hts⟩ (xcJx4a65c_grow_d5877 l hst dC dI T a1 s.heap.size) (cwV 0 hts gJx4a65c_add_72be8_Jx4a65c_grow_d5877 rfl rfl rfl (by decide +kernel) ⟨Nat.le_of_ble_eq_true rfl, Nat.le_of_ble_eq_true rfl⟩) ⟨xBlind, va_recv hK hPc (ci := 4) (q0 := 0) rfl rfl, xCall hK hG hS hPc hDc hFc⟩ rfl rfl hl.1 rfl (lv_room (Nat.le_of_ble_eq_true rfl)) dJx4a65c_add_72be8_7 ⟨Nat.le_of_ble_eq_true rfl, Nat.le_of_ble_eq_true rfl⟩) hS (fun q _ h => hFc q h) hFc (fun u ra t H locs ht hvm hw hB hz1 hk1 hS => ?_)
  rcases hB with ⟨q_2, hr_9, hP1, hD1⟩
  rw [ht] at hP1
  subst hr_9
  obtain ⟨hP, hD⟩ := va_join (wr := [(a2, .inl (T 0, 4, .inl f4))]) (w1 := [(a1, .inr (4, [.int 1, .ref q_2, .int 0])), (q_2, .inl (T 4, 10, .inr (.inr (.inr (.inr (fun _ => none))))))]) hP hD [0] [1] rfl rfl (by decide) (by decide) hk1 hFc hP1 hD1
  have hP := hP.sub (ws' := [(a1, .inr (4, [.int 1, .ref q_2, .int 0])), (a2, .inl (T 0, 4, .inl f4)), (q_2, .inl (T 4, 10, .inr (.inr (.inr (.inr (fun _ => none))))))]) [1, 0, 2] rfl
  have hD := hD.sub (ws' := [(a1, .inr (4, [.int 1, .ref q_2, .int 0])), (a2, .inl (T 0, 4, .inl f4)), (q_2, .inl (T 4, 10, .inr (.inr (.inr (.inr (fun _ => none))))))]) [1, 0, 2] (by decide) rfl
  clear hPc hDc hFc hP1 hD1 hk1 hz1 ht hvm
  refine lv_astore_n (lv' := [(2, .ref q_2), (0, .ref a1), (1, .ref a2), (3, .int 0)]) hx hb dJx4a65c_add_72be8_10 rfl hl (by decide) rfl (fun ls hl => ?_)
  refine lv_aload_n hx hb dJx4a65c_add_72be8_11 rfl (lv_at hl 0 rfl) ?_
  refine lv_iload_n hx hb dJx4a65c_add_72be8_12 rfl (lv_at hl 3 rfl) ?_
  refine lv_aload_n hx hb dJx4a65c_add_72be8_13 rfl (lv_at hl 2 rfl) ?_
  refine va_astqM hx hb hK hP hD hS 2 4 rfl rfl (xAny (qk := 1) hP rfl rfl rfl (hK.2 0 _ rfl).2 hG.2.2.2.2.2.2.2.2.2.2.2.1) (show vp_in 0 10 by unfold vp_in; decide) dJx4a65c_add_72be8_14 (fun H locs hP hD hS => ?_)
  have hP : va_P (dC, dI) vwCl [(a1, .inr (4, [.int 1, .ref q_2, .int 0])), (a2, .inl (T 0, 4, .inl f4)), (q_2, .inl (T 4, 10, .inr (.inr (.inr (.inr (va_up (fun _ => none) (0 : Int32).toNatClampNeg (some a2)))))))] H := hP
  have hD : va_D A [(a1, .inr (4, [.int 1, .ref q_2, .int 0])), (a2, .inl (T 0, 4, .inl f4)), (q_2, .inl (T 4, 10, .inr (.inr (.inr (.inr (va_up (fun _ => none) (0 : Int32).toNatClampNeg (some a2)))))))] := hD
  refine lv_aload_n hx hb dJx4a65c_add_72be8_15 rfl (lv_at hl 1 rfl) ?_
  refine lv_iload_n hx hb dJx4a65c_add_72be8_16 rfl (lv_at hl 3 rfl) ?_
  refine lv_iconst (v := 1) hx hb dJx4a65c_add_72be8_17 (by decide) ?_
  refine lv_iadd hx hb dJx4a65c_add_72be8_18 ?_
  refine lv_topi (fun f_4 ef_4 => ?_)
  obtain rfl : f_4 = 1 := ef_4.trans (by decide)
  refine va_put (D := (dC, dI)) (ci := 4) (v := .int 1) (ty := .int) (C := RJx4a65c) (T := TJx4a65c) (N := 3) hx hb hts hin_Jx4a65c tyJx4a65c tyJx4a65c_ok nmJx4a65c hown hK hP hD hS 0 rfl rfl 2 (by decide) (hts (.fieldLink RJx4a65c 48 "java/util/ArrayList" "size" "I") (by decide +kernel)) (fun _ h9 => h9) rfl (by decide +kernel) rfl rfl (Nat.le_of_ble_eq_true rfl) dJx4a65c_add_72be8_19 (fun H locs hP hD hS => ?_)
  have hP : va_P (dC, dI) vwCl [(a1, .inr (4, [.int 1, .ref q_2, .int 1])), (a2, .inl (T 0, 4, .inl f4)), (q_2, .inl (T 4, 10, .inr (.inr (.inr (.inr (va_up (fun _ => none) (0 : Int32).toNatClampNeg (some a2)))))))] H := hP
  have hD : va_D A [(a1, .inr (4, [.int 1, .ref q_2, .int 1])), (a2, .inl (T 0, 4, .inl f4)), (q_2, .inl (T 4, 10, .inr (.inr (.inr (.inr (va_up (fun _ => none) (0 : Int32).toNatClampNeg (some a2)))))))] := hD
  have hP9 := hP.sub (ws' := [(a1, .inr (4, [.int 1, .ref q_2, .int 1])), (a2, .inl (T 0, 4, .inl f4)), (q_2, .inl (T 4, 10, .inr (.inr (.inr (.inr (va_up (fun _ => none) (0 : Int32).toNatClampNeg (some a2)))))))]) [0, 1, 2] rfl
  have hD9 := hD.sub (ws' := [(a1, .inr (4, [.int 1, .ref q_2, .int 1])), (a2, .inl (T 0, 4, .inl f4)), (q_2, .inl (T 4, 10, .inr (.inr (.inr (.inr (va_up (fun _ => none) (0 : Int32).toNatClampNeg (some a2)))))))]) [0, 1, 2] (by decide) rfl
  exact W.vret hx hb hr (fun t ht hW => ⟨⟨(), rfl, trivial, ⟨q_2, by rw [ht]; exact hP9, hD9⟩⟩, hS.F ht⟩) hS.2.2 dJx4a65c_add_72be8_22
set_option maxHeartbeats 4000000 in
set_option maxRecDepth 100000 in
theorem xcJx4a65c_add_9ea2d_v2 (l : Launch) (hst : l.stackTraces = false) (dC : Nat → ClassId) (dI : Nat → Nat → Nat) (T : Nat → ClassId) (a1 : Nat) (a2 : Nat) (sz : Nat) (f4 : Nat → Int32) : Met l yJx4a65c_add_9ea2d wsJx4a65c_add_9ea2d ({ frames := 4, cells := 1, slots := 10, locals := 80 } : Room) (va_Pc [.ref a1, .ref a2] (fun U => xB dC dI T [(a1, .inr (4, [.int 0, .ref (dI 1000 0), .int 0])), (a2, .inl (T 0, 4, .inl f4))] sz U)) (va_Qi (fun (r u : Int32) => r = u) (fun (u : Int32) (t : State) => ∃ (q_2 : Nat), 1 = u ∧ xE dC dI [(a1, .inr (4, [.int 1, .ref q_2, .int 1])), (a2, .inl (T 0, 4, .inl f4)), (q_2, .inl (T 4, 10, .inr (.inr (.inr (.inr (va_up (fun _ => none) (0 : Int32).toNatClampNeg (some a2)))))))] (va_A [(a1, .inr (4, [.int 0, .ref (dI 1000 0), .int 0])), (a2, .inl (T 0, 4, .inl f4))] sz) t) (va_A [(a1, .inr (4, [.int 0, .ref (dI 1000 0), .int 0])), (a2, .inl (T 0, 4, .inl f4))] sz)) 1 10 (va_A [(a1, .inr (4, [.int 0, .ref (dI 1000 0), .int 0])), (a2, .inl (T 0, 4, .inl f4))] sz) := by
  refine Met.ofW (cc := cJx4a65c_add_9ea2d) (maxL := 2) (ret := (some .boolean)) (by decide +kernel) rfl ?_
  intro p e s m args below meth c s₁ B hml hv
  obtain ⟨rfl, hsz, hP, hK, hD0, hG⟩ := hv
  have hx := B.exec
  have hb := B.bytes
  have hr := B.returns
  have hts := atoms_spec (ws := wsJx4a65c_add_9ea2d) B.pre
  have hown : s.vm.findClass RJx4a65c = some m.cls := findClass_of_methodNamed B.named
  have hlocks := B.notSynchronized
  have hin_Jx4a65c : ∀ w ∈ wsJx4a65c0, w ∈ wsJx4a65c_add_9ea2d := by decide +kernel
  subst hsz
  have hD := hD0.self (sz := s.heap.size)
  generalize hAe : va_A [(a1, .inr (4, [.int 0, .ref (dI 1000 0), .int 0])), (a2, .inl (T 0, 4, .inl f4))] s.heap.size = A at hD hG ⊢
  have hA : ∀ q : Nat, s.heap.size ≤ q → A q := fun q h => by rw [← hAe]; exact Or.inr h
  have hS : va_S A s.heap s.heap [] := va_S.rf
  have hl := lv_entry ([.ref a1, .ref a2]) (n := 2) (Nat.le_of_ble_eq_true rfl)
  rw [lg_entry_eq]
  generalize (lg_sl ([.ref a1, .ref a2]) ++ List.replicate (2 - (lg_sl ([.ref a1, .ref a2])).length) Slot.unset).toArray = ls at hl ⊢
  have hl : lv_has ls 2 [(0, .ref a1), (1, .ref a2)] := hl
  refine lv_aload_n hx hb dJx4a65c_add_9ea2d_0 rfl (lv_at hl 0 rfl) ?_
  refine lv_dup hx hb dJx4a65c_add_9ea2d_1 rfl ?_
  refine va_get (D := (dC, dI)) (ci := 4) (v := .int 0) (C := RJx4a65c) (T := TJx4a65c) (N := 3) hx hb hts hin_Jx4a65c hown hK hP 0 rfl rfl 0 (by decide) (hts (.fieldLink RJx4a65c 63 "java/util/ArrayList" "modCount" "I") (by decide +kernel)) (fun x h9 => u_same (hts (.sameField "java/util/ArrayList" "java/util/AbstractList" "modCount" "I") (by decide +kernel)) x h9) rfl dJx4a65c_add_9ea2d_2 ?_
  refine lv_iconst (v := 1) hx hb dJx4a65c_add_9ea2d_5 (by decide) ?_
  refine lv_iadd hx hb dJx4a65c_add_9ea2d_6 ?_
  refine lv_topi (fun f_1 ef_1 => ?_)
  obtain rfl : f_1 = 1 := ef_1.trans (by decide)
  refine va_put (D := (dC, dI)) (ci := 4) (v := .int 1) (ty := .int) (C := RJx4a65c) (T := TJx4a65c) (N := 3) hx hb hts hin_Jx4a65c tyJx4a65c tyJx4a65c_ok nmJx4a65c hown hK hP hD hS 0 rfl rfl 0 (by decide) (hts (.fieldLink RJx4a65c 63 "java/util/ArrayList" "modCount" "I") (by decide +kernel)) (fun x h9 => u_same (hts (.sameField "java/util/ArrayList" "java/util/AbstractList" "modCount" "I") (by decide +kernel)) x h9) rfl (by decide +kernel) rfl rfl (Nat.le_of_ble_eq_true rfl) dJx4a65c_add_9ea2d_7 (fun H locs hP hD hS => ?_)
  have hP : va_P (dC, dI) vwCl [(a1, .inr (4, [.int 1, .ref (dI 1000 0), .int 0])), (a2, .inl (T 0, 4, .inl f4))] H := hP
  have hD : va_D A [(a1, .inr (4, [.int 1, .ref (dI 1000 0), .int 0])), (a2, .inl (T 0, 4, .inl f4))] := hD
  refine lv_aload_n hx hb dJx4a65c_add_9ea2d_10 rfl (lv_at hl 0 rfl) ?_
  refine lv_aload_n hx hb dJx4a65c_add_9ea2d_11 rfl (lv_at hl 1 rfl) ?_
  refine lv_aload_n hx hb dJx4a65c_add_9ea2d_12 rfl (lv_at hl 0 rfl) ?_
  refine va_get (D := (dC, dI)) (ci := 4) (v := .ref (dI 1000 0)) (C := RJx4a65c) (T := TJx4a65c) (N := 3) hx hb hts hin_Jx4a65c hown hK hP 0 rfl rfl 1 (by decide) (hts (.fieldLink RJx4a65c 9 "java/util/ArrayList" "elementData" "[Ljava/lang/Object;") (by decide +kernel)) (fun _ h9 => h9) rfl dJx4a65c_add_9ea2d_13 ?_
  refine lv_aload_n hx hb dJx4a65c_add_9ea2d_16 rfl (lv_at hl 0 rfl) ?_
  refine va_get (D := (dC, dI)) (ci := 4) (v := .int 0) (C := RJx4a65c) (T := TJx4a65c) (N := 3) hx hb hts hin_Jx4a65c hown hK hP 0 rfl rfl 2 (by decide) (hts (.fieldLink RJx4a65c 48 "java/util/ArrayList" "size" "I") (by decide +kernel)) (fun _ h9 => h9) rfl dJx4a65c_add_9ea2d_17 ?_
  have hPc := hP.sub (ws' := [(a1, .inr (4, [.int 1, .ref (dI 1000 0), .int 0])), (a2, .inl (T 0, 4, .inl f4))]) [0, 1] rfl
  have hDc := hD.sub (ws' := [(a1, .inr (4, [.int 1, .ref (dI 1000 0), .int 0])), (a2, .inl (T 0, 4, .inl f4))]) [0, 1] (by decide) rfl
  have hFc := va_free (wc := [(a1, .inr (4, [.int 1, .ref (dI 1000 0), .int 0])), (a2, .inl (T 0, 4, .inl f4))]) hD hS hA [0, 1] rfl
  refine va_callv (va_runV (As := [.ref a2, .ref (dI 1000 0), .int 0]) (rest := []) ⟨hx, hb, hml, hown, hts⟩ (xcJx4a65c_add_72be8_v2 l hst dC dI T a1 a2 H.size f4) (cwV 3 hts gJx4a65c_add_9ea2d_Jx4a65c_add_72be8 rfl rfl rfl (by decide +kernel) ⟨Nat.le_of_ble_eq_true rfl, Nat.le_of_ble_eq_true rfl⟩) ⟨xBlind, va_recv hK hPc (ci := 4) (q0 := 0) rfl rfl, xCall hK hG hS hPc hDc hFc⟩ rfl rfl hl.1 rfl (lv_room (Nat.le_of_ble_eq_true rfl)) dJx4a65c_add_9ea2d_20 ⟨Nat.le_of_ble_eq_true rfl, Nat.le_of_ble_eq_true rfl⟩) hS (fun q _ h => hFc q h) hFc (fun u t H locs ht hvm hw hB hz1 hk1 hS => ?_)
  rcases hB with ⟨q_2, hP1, hD1⟩
  rw [ht] at hP1
  obtain ⟨hP, hD⟩ := va_join (wr := []) (w1 := [(a1, .inr (4, [.int 1, .ref q_2, .int 1])), (a2, .inl (T 0, 4, .inl f4)), (q_2, .inl (T 4, 10, .inr (.inr (.inr (.inr (va_up (fun _ => none) (0 : Int32).toNatClampNeg (some a2)))))))]) hP hD [0, 1] [] rfl rfl (by decide) (by decide) hk1 hFc hP1 hD1
  have hP : va_P (dC, dI) vwCl [(a1, .inr (4, [.int 1, .ref q_2, .int 1])), (a2, .inl (T 0, 4, .inl f4)), (q_2, .inl (T 4, 10, .inr (.inr (.inr (.inr (va_up (fun _ => none) (0 : Int32).toNatClampNeg (some a2)))))))] H := hP
  have hD : va_D A [(a1, .inr (4, [.int 1, .ref q_2, .int 1])), (a2, .inl (T 0, 4, .inl f4)), (q_2, .inl (T 4, 10, .inr (.inr (.inr (.inr (va_up (fun _ => none) (0 : Int32).toNatClampNeg (some a2)))))))] := hD
  clear hPc hDc hFc hP1 hD1 hk1 hz1 ht hvm
  refine lv_iconst (v := 1) hx hb dJx4a65c_add_9ea2d_23 (by decide) ?_
  have hP9 := hP.sub (ws' := [(a1, .inr (4, [.int 1, .ref q_2, .int 1])), (a2, .inl (T 0, 4, .inl f4)), (q_2, .inl (T 4, 10, .inr (.inr (.inr (.inr (va_up (fun _ => none) (0 : Int32).toNatClampNeg (some a2)))))))]) [0, 1, 2] rfl
  have hD9 := hD.sub (ws' := [(a1, .inr (4, [.int 1, .ref q_2, .int 1])), (a2, .inl (T 0, 4, .inl f4)), (q_2, .inl (T 4, 10, .inr (.inr (.inr (.inr (va_up (fun _ => none) (0 : Int32).toNatClampNeg (some a2)))))))]) [0, 1, 2] (by decide) rfl
  exact W.zret (v := 1) hx hb hr (by decide) (fun t ht hW => ⟨⟨_, _, rfl, rfl, ⟨q_2, rfl, by rw [ht]; exact hP9, hD9⟩⟩, hS.F ht⟩) hS.2.2 dJx4a65c_add_9ea2d_24
set_option maxHeartbeats 4000000 in
set_option maxRecDepth 100000 in
theorem xcX12_addWall (l : Launch) (hst : l.stackTraces = false) (dC : Nat → ClassId) (dI : Nat → Nat → Nat) (T : Nat → ClassId) (a1 : Nat) (a2 : Nat) (a3 : Nat) (a4 : Nat) (sz : Nat) (p1 : Int32) (p2 : Int32) (p3 : Int32) (p4 : Int32) : Met l yX12_addWall wsX12_addWall ({ frames := 5, cells := 2, slots := 14, locals := 101 } : Room) (va_Pc [.ref a1, .int p1, .int p2, .int p3, .int p4] (fun U => xB dC dI T [(a1, .inr (17, [.int 0, .ref a2, .ref a3, .ref a4, .long 0])), (a4, .inr (4, [.int 0, .ref (dI 1000 0), .int 0]))] sz U)) (va_Qi (fun (r u : Int32) => r = u) (fun (u : Int32) (t : State) => ((((((p1.toInt64).toInt < -100) ∨ ((¬ ((p1.toInt64).toInt < -100)) ∧ (100 < (p1.toInt64).toInt))) ∨ (((¬ ((p1.toInt64).toInt < -100)) ∧ (¬ (100 < (p1.toInt64).toInt))) ∧ (((p2.toInt64).toInt < -100) ∨ ((¬ ((p2.toInt64).toInt < -100)) ∧ (100 < (p2.toInt64).toInt))))) ∨ ((((¬ ((p1.toInt64).toInt < -100)) ∧ (¬ (100 < (p1.toInt64).toInt))) ∧ ((¬ ((p2.toInt64).toInt < -100)) ∧ (¬ (100 < (p2.toInt64).toInt)))) ∧ ((((p3.toInt64).toInt < -100) ∨ ((¬ ((p3.toInt64).toInt < -100)) ∧ (100 < (p3.toInt64).toInt))) ∨ (((¬ ((p3.toInt64).toInt < -100)) ∧ (¬ (100 < (p3.toInt64).toInt))) ∧ (((p4.toInt64).toInt < -100) ∨ ((¬ ((p4.toInt64).toInt < -100)) ∧ (100 < (p4.toInt64).toInt)))))) ∨ ((((¬ ((p1.toInt64).toInt < -100)) ∧ (¬ (100 < (p1.toInt64).toInt))) ∧ ((¬ ((p2.toInt64).toInt < -100)) ∧ (¬ (100 < (p2.toInt64).toInt)))) ∧ (((¬ ((p3.toInt64).toInt < -100)) ∧ (¬ (100 < (p3.toInt64).toInt))) ∧ ((¬ ((p4.toInt64).toInt < -100)) ∧ (¬ (100 < (p4.toInt64).toInt)))) ∧ (p1.toInt = p3.toInt) ∧ (p2.toInt = p4.toInt))) ∧ 0 = u ∧ xE dC dI [(a1, .inr (17, [.int 1, .ref a2, .ref a3, .ref a4, .long 0]))] (va_A [(a1, .inr (17, [.int 0, .ref a2, .ref a3, .ref a4, .long 0])), (a4, .inr (4, [.int 0, .ref (dI 1000 0), .int 0]))] sz) t) ∨ ((((((¬ ((p1.toInt64).toInt < -100)) ∧ (¬ (100 < (p1.toInt64).toInt))) ∧ ((¬ ((p2.toInt64).toInt < -100)) ∧ (¬ (100 < (p2.toInt64).toInt)))) ∧ (((¬ ((p3.toInt64).toInt < -100)) ∧ (¬ (100 < (p3.toInt64).toInt))) ∧ ((¬ ((p4.toInt64).toInt < -100)) ∧ (¬ (100 < (p4.toInt64).toInt)))) ∧ (¬ (p1.toInt = p3.toInt))) ∨ ((((¬ ((p1.toInt64).toInt < -100)) ∧ (¬ (100 < (p1.toInt64).toInt))) ∧ ((¬ ((p2.toInt64).toInt < -100)) ∧ (¬ (100 < (p2.toInt64).toInt)))) ∧ (((¬ ((p3.toInt64).toInt < -100)) ∧ (¬ (100 < (p3.toInt64).toInt))) ∧ ((¬ ((p4.toInt64).toInt < -100)) ∧ (¬ (100 < (p4.toInt64).toInt)))) ∧ (p1.toInt = p3.toInt) ∧ (¬ (p2.toInt = p4.toInt)))) ∧ 0 = u ∧ xE dC dI [(a1, .inr (17, [.int 0, .ref a2, .ref a3, .ref a4, .long 0]))] (va_A [(a1, .inr (17, [.int 0, .ref a2, .ref a3, .ref a4, .long 0])), (a4, .inr (4, [.int 0, .ref (dI 1000 0), .int 0]))] sz) t)) (va_A [(a1, .inr (17, [.int 0, .ref a2, .ref a3, .ref a4, .long 0])), (a4, .inr (4, [.int 0, .ref (dI 1000 0), .int 0]))] sz)) 2 14 (va_A [(a1, .inr (17, [.int 0, .ref a2, .ref a3, .ref a4, .long 0])), (a4, .inr (4, [.int 0, .ref (dI 1000 0), .int 0]))] sz) := by
  refine Met.ofW (cc := cX12_addWall) (maxL := 6) (ret := (some .int)) (by decide +kernel) rfl ?_
  intro p e s m args below meth c s₁ B hml hv
  obtain ⟨rfl, hsz, hP, hK, hD0, hG⟩ := hv
  have hx := B.exec
  have hb := B.bytes
  have hr := B.returns
  have hts := atoms_spec (ws := wsX12_addWall) B.pre
  have hown : s.vm.findClass RX12 = some m.cls := findClass_of_methodNamed B.named
  have hlocks := B.notSynchronized
  have hin_X12 : ∀ w ∈ wsX120, w ∈ wsX12_addWall := by decide +kernel
  subst hsz
  have hD := hD0.self (sz := s.heap.size)
  generalize hAe : va_A [(a1, .inr (17, [.int 0, .ref a2, .ref a3, .ref a4, .long 0])), (a4, .inr (4, [.int 0, .ref (dI 1000 0), .int 0]))] s.heap.size = A at hD hG ⊢
  have hA : ∀ q : Nat, s.heap.size ≤ q → A q := fun q h => by rw [← hAe]; exact Or.inr h
  have hS : va_S A s.heap s.heap [] := va_S.rf
  have hl := lv_entry ([.ref a1, .int p1, .int p2, .int p3, .int p4]) (n := 6) (Nat.le_of_ble_eq_true rfl)
  rw [lg_entry_eq]
  generalize (lg_sl ([.ref a1, .int p1, .int p2, .int p3, .int p4]) ++ List.replicate (6 - (lg_sl ([.ref a1, .int p1, .int p2, .int p3, .int p4])).length) Slot.unset).toArray = ls at hl ⊢
  have hl : lv_has ls 6 [(0, .ref a1), (1, .int p1), (2, .int p2), (3, .int p3), (4, .int p4)] := hl
  refine lv_iload_n hx hb dX12_addWall_0 rfl (lv_at hl 1 rfl) ?_
  refine lv_iload_n hx hb dX12_addWall_1 rfl (lv_at hl 2 rfl) ?_
  refine lv_bipush (v := 100) hx hb dX12_addWall_2 (by decide) ?_
  have hPc := hP.sub (ws' := []) [] rfl
  have hDc := hD.sub (ws' := []) [] (by decide) rfl
  have hFc := va_free (wc := []) hD hS hA [] rfl
  refine va_calli (va_runS (As := [.int p1, .int p2, .int 100]) (rest := []) ⟨hx, hb, hml, hown, hts⟩ (xcX12_isPlace l hst dC dI T s.heap.size p1 p2) (cwS 3 hts gX12_addWall_X12_isPlace rfl rfl rfl (by decide +kernel) ⟨Nat.le_of_ble_eq_true rfl, Nat.le_of_ble_eq_true rfl⟩) ⟨xBlind, xCall hK hG hS hPc hDc hFc⟩ rfl rfl hl.1 rfl (lv_room (Nat.le_of_ble_eq_true rfl)) dX12_addWall_4 ⟨Nat.le_of_ble_eq_true rfl, Nat.le_of_ble_eq_true rfl⟩) hS (fun q _ h => hFc q h) hFc (fun r_9 u t H locs ht hvm hw hB hz1 hk1 hS => ?_)
  subst hw
  rcases hB with ⟨c_1, hr_9, hP1, hD1⟩ | ⟨c_2, hr_9, hP1, hD1⟩
  · have hz_3 : (p1.toInt64).toInt = p1.toInt := Int32.toInt_toInt64 _
    have hz_4 : (p2.toInt64).toInt = p2.toInt := Int32.toInt_toInt64 _
    rw [ht] at hP1
    subst hr_9
    obtain ⟨hP, hD⟩ := va_join (wr := [(a1, .inr (17, [.int 0, .ref a2, .ref a3, .ref a4, .long 0])), (a4, .inr (4, [.int 0, .ref (dI 1000 0), .int 0]))]) (w1 := []) hP hD [] [0, 1] rfl rfl (by decide) (by decide) hk1 hFc hP1 hD1
    have hP : va_P (dC, dI) vwCl [(a1, .inr (17, [.int 0, .ref a2, .ref a3, .ref a4, .long 0])), (a4, .inr (4, [.int 0, .ref (dI 1000 0), .int 0]))] H := hP
    have hD : va_D A [(a1, .inr (17, [.int 0, .ref a2, .ref a3, .ref a4, .long 0])), (a4, .inr (4, [.int 0, .ref (dI 1000 0), .int 0]))] := hD
    clear hPc hDc hFc hP1 hD1 hk1 hz1 ht hvm
    refine lv_if_eq (tgt := 36) hx hb dX12_addWall_7 (by decide) (fun c_5 => ?_) (fun c_5 => absurd (by decide) c_5)
    refine lv_iconst (v := 0) hx hb dX12_addWall_36 (by decide) ?_
    refine lv_istore (lv' := [(5, .int 0), (0, .ref a1), (1, .int p1), (2, .int p2), (3, .int p3), (4, .int p4)]) hx hb dX12_addWall_37 hl (by decide) rfl (fun ls hl => ?_)
    refine lv_aload_n hx hb dX12_addWall_39 rfl (lv_at hl 1 rfl) ?_
    refine lv_iload hx hb dX12_addWall_40 (lv_at hl 0 rfl) ?_
    refine lv_if_ne (tgt := 49) hx hb dX12_addWall_42 (by decide) (fun c_6 => absurd c_6 (by decide)) (fun c_6 => ?_)
    refine lv_iconst (v := 1) hx hb dX12_addWall_45 (by decide) ?_
    refine lv_goto (tgt := 68) hx hb dX12_addWall_46 (by decide) ?_
    have hPc := hP.sub (ws' := [(a1, .inr (17, [.int 0, .ref a2, .ref a3, .ref a4, .long 0]))]) [0] rfl
    have hDc := hD.sub (ws' := [(a1, .inr (17, [.int 0, .ref a2, .ref a3, .ref a4, .long 0]))]) [0] (by decide) rfl
    have hFc := va_free (wc := [(a1, .inr (17, [.int 0, .ref a2, .ref a3, .ref a4, .long 0]))]) hD hS hA [0] rfl
    refine va_calli (va_runV (As := [.int 1]) (rest := []) ⟨hx, hb, hml, hown, hts⟩ (xcX12_isWrong l hst dC dI T a1 a2 a3 a4 H.size) (cwV 1 hts gX12_addWall_X12_isWrong rfl rfl rfl (by decide +kernel) ⟨Nat.le_of_ble_eq_true rfl, Nat.le_of_ble_eq_true rfl⟩) ⟨xBlind, va_recv hK hPc (ci := 17) (q0 := 0) rfl rfl, xCall hK hG hS hPc hDc hFc⟩ rfl rfl hl.1 rfl (lv_room (Nat.le_of_ble_eq_true rfl)) dX12_addWall_68 ⟨Nat.le_of_ble_eq_true rfl, Nat.le_of_ble_eq_true rfl⟩) hS (fun q _ h => hFc q h) hFc (fun r_9 u t H locs ht hvm hw hB hz1 hk1 hS => ?_)
    subst hw
    rcases hB with ⟨hr_9, hP1, hD1⟩
    rw [ht] at hP1
    subst hr_9
    obtain ⟨hP, hD⟩ := va_join (wr := [(a4, .inr (4, [.int 0, .ref (dI 1000 0), .int 0]))]) (w1 := [(a1, .inr (17, [.int 1, .ref a2, .ref a3, .ref a4, .long 0]))]) hP hD [0] [1] rfl rfl (by decide) (by decide) hk1 hFc hP1 hD1
    have hP := hP.sub (ws' := [(a1, .inr (17, [.int 1, .ref a2, .ref a3, .ref a4, .long 0])), (a4, .inr (4, [.int 0, .ref (dI 1000 0), .int 0]))]) [1, 0] rfl
    have hD := hD.sub (ws' := [(a1, .inr (17, [.int 1, .ref a2, .ref a3, .ref a4, .long 0])), (a4, .inr (4, [.int 0, .ref (dI 1000 0), .int 0]))]) [1, 0] (by decide) rfl
    clear hPc hDc hFc hP1 hD1 hk1 hz1 ht hvm
    refine lv_if_eq (tgt := 76) hx hb dX12_addWall_71 (by decide) (fun c_8 => absurd c_8 (by decide)) (fun c_8 => ?_)
    refine lv_iconst (v := 0) hx hb dX12_addWall_74 (by decide) ?_
    have hP9 := hP.sub (ws' := [(a1, .inr (17, [.int 1, .ref a2, .ref a3, .ref a4, .long 0]))]) [0] rfl
    have hD9 := hD.sub (ws' := [(a1, .inr (17, [.int 1, .ref a2, .ref a3, .ref a4, .long 0]))]) [0] (by decide) rfl
    refine W.widen (k := 2) (n := 14) (Nat.le_of_ble_eq_true rfl) (Nat.le_of_ble_eq_true rfl) ?_
    exact W.iret (v := 0) hx hb hr (fun t ht hW => ⟨⟨_, _, rfl, rfl, (Or.inl ⟨(Or.inl c_1), rfl, by rw [ht]; exact hP9, hD9⟩)⟩, hS.F ht⟩) hS.2.2 dX12_addWall_75
  · have hz_9 : (p1.toInt64).toInt = p1.toInt := Int32.toInt_toInt64 _
    have hz_10 : (p2.toInt64).toInt = p2.toInt := Int32.toInt_toInt64 _
    rw [ht] at hP1
    subst hr_9
    obtain ⟨hP, hD⟩ := va_join (wr := [(a1, .inr (17, [.int 0, .ref a2, .ref a3, .ref a4, .long 0])), (a4, .inr (4, [.int 0, .ref (dI 1000 0), .int 0]))]) (w1 := []) hP hD [] [0, 1] rfl rfl (by decide) (by decide) hk1 hFc hP1 hD1
    have hP : va_P (dC, dI) vwCl [(a1, .inr (17, [.int 0, .ref a2, .ref a3, .ref a4, .long 0])), (a4, .inr (4, [.int 0, .ref (dI 1000 0), .int 0]))] H := hP
    have hD : va_D A [(a1, .inr (17, [.int 0, .ref a2, .ref a3, .ref a4, .long 0])), (a4, .inr (4, [.int 0, .ref (dI 1000 0), .int 0]))] := hD
    clear hPc hDc hFc hP1 hD1 hk1 hz1 ht hvm
    refine lv_if_eq (tgt := 36) hx hb dX12_addWall_7 (by decide) (fun c_11 => absurd c_11 (by decide)) (fun c_11 => ?_)
    refine lv_iload_n hx hb dX12_addWall_10 rfl (lv_at hl 3 rfl) ?_
    refine lv_iload hx hb dX12_addWall_11 (lv_at hl 4 rfl) ?_
    refine lv_bipush (v := 100) hx hb dX12_addWall_13 (by decide) ?_
    have hPc := hP.sub (ws' := []) [] rfl
    have hDc := hD.sub (ws' := []) [] (by decide) rfl
    have hFc := va_free (wc := []) hD hS hA [] rfl
    refine va_calli (va_runS (As := [.int p3, .int p4, .int 100]) (rest := []) ⟨hx, hb, hml, hown, hts⟩ (xcX12_isPlace l hst dC dI T H.size p3 p4) (cwS 3 hts gX12_addWall_X12_isPlace rfl rfl rfl (by decide +kernel) ⟨Nat.le_of_ble_eq_true rfl, Nat.le_of_ble_eq_true rfl⟩) ⟨xBlind, xCall hK hG hS hPc hDc hFc⟩ rfl rfl hl.1 rfl (lv_room (Nat.le_of_ble_eq_true rfl)) dX12_addWall_15 ⟨Nat.le_of_ble_eq_true rfl, Nat.le_of_ble_eq_true rfl⟩) hS (fun q _ h => hFc q h) hFc (fun r_9 u t H locs ht hvm hw hB hz1 hk1 hS => ?_)
    subst hw
    rcases hB with ⟨c_12, hr_9, hP1, hD1⟩ | ⟨c_13, hr_9, hP1, hD1⟩
    · have hz_14 : (p3.toInt64).toInt = p3.toInt := Int32.toInt_toInt64 _
      have hz_15 : (p4.toInt64).toInt = p4.toInt := Int32.toInt_toInt64 _
      rw [ht] at hP1
      subst hr_9
      obtain ⟨hP, hD⟩ := va_join (wr := [(a1, .inr (17, [.int 0, .ref a2, .ref a3, .ref a4, .long 0])), (a4, .inr (4, [.int 0, .ref (dI 1000 0), .int 0]))]) (w1 := []) hP hD [] [0, 1] rfl rfl (by decide) (by decide) hk1 hFc hP1 hD1
      have hP : va_P (dC, dI) vwCl [(a1, .inr (17, [.int 0, .ref a2, .ref a3, .ref a4, .long 0])), (a4, .inr (4, [.int 0, .ref (dI 1000 0), .int 0]))] H := hP
      have hD : va_D A [(a1, .inr (17, [.int 0, .ref a2, .ref a3, .ref a4, .long 0])), (a4, .inr (4, [.int 0, .ref (dI 1000 0), .int 0]))] := hD
      clear hPc hDc hFc hP1 hD1 hk1 hz1 ht hvm
      refine lv_if_eq (tgt := 36) hx hb dX12_addWall_18 (by decide) (fun c_16 => ?_) (fun c_16 => absurd (by decide) c_16)
      refine lv_iconst (v := 0) hx hb dX12_addWall_36 (by decide) ?_
      refine lv_istore (lv' := [(5, .int 0), (0, .ref a1), (1, .int p1), (2, .int p2), (3, .int p3), (4, .int p4)]) hx hb dX12_addWall_37 hl (by decide) rfl (fun ls hl => ?_)
      refine lv_aload_n hx hb dX12_addWall_39 rfl (lv_at hl 1 rfl) ?_
      refine lv_iload hx hb dX12_addWall_40 (lv_at hl 0 rfl) ?_
      refine lv_if_ne (tgt := 49) hx hb dX12_addWall_42 (by decide) (fun c_17 => absurd c_17 (by decide)) (fun c_17 => ?_)
      refine lv_iconst (v := 1) hx hb dX12_addWall_45 (by decide) ?_
      refine lv_goto (tgt := 68) hx hb dX12_addWall_46 (by decide) ?_
      have hPc := hP.sub (ws' := [(a1, .inr (17, [.int 0, .ref a2, .ref a3, .ref a4, .long 0]))]) [0] rfl
      have hDc := hD.sub (ws' := [(a1, .inr (17, [.int 0, .ref a2, .ref a3, .ref a4, .long 0]))]) [0] (by decide) rfl
      have hFc := va_free (wc := [(a1, .inr (17, [.int 0, .ref a2, .ref a3, .ref a4, .long 0]))]) hD hS hA [0] rfl
      refine va_calli (va_runV (As := [.int 1]) (rest := []) ⟨hx, hb, hml, hown, hts⟩ (xcX12_isWrong l hst dC dI T a1 a2 a3 a4 H.size) (cwV 1 hts gX12_addWall_X12_isWrong rfl rfl rfl (by decide +kernel) ⟨Nat.le_of_ble_eq_true rfl, Nat.le_of_ble_eq_true rfl⟩) ⟨xBlind, va_recv hK hPc (ci := 17) (q0 := 0) rfl rfl, xCall hK hG hS hPc hDc hFc⟩ rfl rfl hl.1 rfl (lv_room (Nat.le_of_ble_eq_true rfl)) dX12_addWall_68 ⟨Nat.le_of_ble_eq_true rfl, Nat.le_of_ble_eq_true rfl⟩) hS (fun q _ h => hFc q h) hFc (fun r_9 u t H locs ht hvm hw hB hz1 hk1 hS => ?_)
      subst hw
      rcases hB with ⟨hr_9, hP1, hD1⟩
      rw [ht] at hP1
      subst hr_9
      obtain ⟨hP, hD⟩ := va_join (wr := [(a4, .inr (4, [.int 0, .ref (dI 1000 0), .int 0]))]) (w1 := [(a1, .inr (17, [.int 1, .ref a2, .ref a3, .ref a4, .long 0]))]) hP hD [0] [1] rfl rfl (by decide) (by decide) hk1 hFc hP1 hD1
      have hP := hP.sub (ws' := [(a1, .inr (17, [.int 1, .ref a2, .ref a3, .ref a4, .long 0])), (a4, .inr (4, [.int 0, .ref (dI 1000 0), .int 0]))]) [1, 0] rfl
      have hD := hD.sub (ws' := [(a1, .inr (17, [.int 1, .ref a2, .ref a3, .ref a4, .long 0])), (a4, .inr (4, [.int 0, .ref (dI 1000 0), .int 0]))]) [1, 0] (by decide) rfl
      clear hPc hDc hFc hP1 hD1 hk1 hz1 ht hvm
      refine lv_if_eq (tgt := 76) hx hb dX12_addWall_71 (by decide) (fun c_19 => absurd c_19 (by decide)) (fun c_19 => ?_)
      refine lv_iconst (v := 0) hx hb dX12_addWall_74 (by decide) ?_
      have hP9 := hP.sub (ws' := [(a1, .inr (17, [.int 1, .ref a2, .ref a3, .ref a4, .long 0]))]) [0] rfl
      have hD9 := hD.sub (ws' := [(a1, .inr (17, [.int 1, .ref a2, .ref a3, .ref a4, .long 0]))]) [0] (by decide) rfl
      refine W.widen (k := 2) (n := 14) (Nat.le_of_ble_eq_true rfl) (Nat.le_of_ble_eq_true rfl) ?_
      exact W.iret (v := 0) hx hb hr (fun t ht hW => ⟨⟨_, _, rfl, rfl, (Or.inl ⟨(Or.inr (Or.inl ⟨c_2, c_12⟩)), rfl, by rw [ht]; exact hP9, hD9⟩)⟩, hS.F ht⟩) hS.2.2 dX12_addWall_75
    · have hz_20 : (p3.toInt64).toInt = p3.toInt := Int32.toInt_toInt64 _
      have hz_21 : (p4.toInt64).toInt = p4.toInt := Int32.toInt_toInt64 _
      rw [ht] at hP1
      subst hr_9
      obtain ⟨hP, hD⟩ := va_join (wr := [(a1, .inr (17, [.int 0, .ref a2, .ref a3, .ref a4, .long 0])), (a4, .inr (4, [.int 0, .ref (dI 1000 0), .int 0]))]) (w1 := []) hP hD [] [0, 1] rfl rfl (by decide) (by decide) hk1 hFc hP1 hD1
      have hP : va_P (dC, dI) vwCl [(a1, .inr (17, [.int 0, .ref a2, .ref a3, .ref a4, .long 0])), (a4, .inr (4, [.int 0, .ref (dI 1000 0), .int 0]))] H := hP
      have hD : va_D A [(a1, .inr (17, [.int 0, .ref a2, .ref a3, .ref a4, .long 0])), (a4, .inr (4, [.int 0, .ref (dI 1000 0), .int 0]))] := hD
      clear hPc hDc hFc hP1 hD1 hk1 hz1 ht hvm
      refine lv_if_eq (tgt := 36) hx hb dX12_addWall_18 (by decide) (fun c_22 => absurd c_22 (by decide)) (fun c_22 => ?_)
      refine lv_iload_n hx hb dX12_addWall_21 rfl (lv_at hl 1 rfl) ?_
      refine lv_iload_n hx hb dX12_addWall_22 rfl (lv_at hl 3 rfl) ?_
      refine lv_icmp_ne (tgt := 32) hx hb dX12_addWall_23 (by decide) (fun c_23 => ?_) (fun c_23 => ?_)
      · have nc_23 : ¬ (p1.toInt = p3.toInt) := mt (xi_eq rfl rfl).mpr c_23
        refine lv_iconst (v := 1) hx hb dX12_addWall_32 (by decide) ?_
        refine lv_goto (tgt := 37) hx hb dX12_addWall_33 (by decide) ?_
        refine lv_istore (lv' := [(5, .int 1), (0, .ref a1), (1, .int p1), (2, .int p2), (3, .int p3), (4, .int p4)]) hx hb dX12_addWall_37 hl (by decide) rfl (fun ls hl => ?_)
        refine lv_aload_n hx hb dX12_addWall_39 rfl (lv_at hl 1 rfl) ?_
        refine lv_iload hx hb dX12_addWall_40 (lv_at hl 0 rfl) ?_
        refine lv_if_ne (tgt := 49) hx hb dX12_addWall_42 (by decide) (fun c_24 => ?_) (fun c_24 => absurd c_24 (by decide))
        refine lv_aload_n hx hb dX12_addWall_49 rfl (lv_at hl 1 rfl) ?_
        refine va_get (D := (dC, dI)) (ci := 17) (v := .ref a4) (C := RX12) (T := TX12) (N := 5) hx hb hts hin_X12 hown hK hP 0 rfl rfl 3 (by decide) (hts (.fieldLink RX12 22 "NearestwardModel" "walls" "Ljava/util/List;") (by decide +kernel)) (fun _ h9 => h9) rfl dX12_addWall_50 ?_
        have hPc := hP.sub (ws' := [(a4, .inr (4, [.int 0, .ref (dI 1000 0), .int 0]))]) [1] rfl
        have hDc := hD.sub (ws' := [(a4, .inr (4, [.int 0, .ref (dI 1000 0), .int 0]))]) [1] (by decide) rfl
        have hFc := va_free (wc := [(a4, .inr (4, [.int 0, .ref (dI 1000 0), .int 0]))]) hD hS hA [1] rfl
        refine va_callFi (va_runF (As := []) (rest := [.ref a1]) (hK.1 4 _ rfl).2 ⟨hx, hb, hml, hown, hts⟩ (xcJx4a65c_size_8abf5_v2 l hst dC dI T a4 H.size) (va_cwF 0 hts gX12_addWall_Jx4a65c_size_8abf5_f56Jx4a65c rfl rfl rfl (hG.2.2.2.2.2.2.1 ((⟨"java/util/List", "size", "()I"⟩ : MethodName), yJx4a65c_size_8abf5) (List.mem_of_getElem? (i := 1) rfl)) (by decide +kernel) ⟨Nat.le_of_ble_eq_true rfl, Nat.le_of_ble_eq_true rfl⟩) ⟨xBlind, va_recv hK hPc (ci := 4) (q0 := 0) rfl rfl, xCall hK hG hS hPc hDc hFc⟩ rfl rfl hl.1 rfl (lv_room (Nat.le_of_ble_eq_true rfl)) dX12_addWall_53 ⟨Nat.le_of_ble_eq_true rfl, Nat.le_of_ble_eq_true rfl⟩) hS (fun q _ h => hFc q h) hFc (fun r_9 u t H locs ht hvm hw hB hz1 hk1 hS => ?_)
        subst hw
        rcases hB with ⟨hr_9, hP1, hD1⟩
        rw [ht] at hP1
        subst hr_9
        obtain ⟨hP, hD⟩ := va_join (wr := [(a1, .inr (17, [.int 0, .ref a2, .ref a3, .ref a4, .long 0]))]) (w1 := [(a4, .inr (4, [.int 0, .ref (dI 1000 0), .int 0]))]) hP hD [1] [0] rfl rfl (by decide) (by decide) hk1 hFc hP1 hD1
        have hP : va_P (dC, dI) vwCl [(a1, .inr (17, [.int 0, .ref a2, .ref a3, .ref a4, .long 0])), (a4, .inr (4, [.int 0, .ref (dI 1000 0), .int 0]))] H := hP
        have hD : va_D A [(a1, .inr (17, [.int 0, .ref a2, .ref a3, .ref a4, .long 0])), (a4, .inr (4, [.int 0, .ref (dI 1000 0), .int 0]))] := hD
        clear hPc hDc hFc hP1 hD1 hk1 hz1 ht hvm
        refine lv_bipush (v := 10) hx hb dX12_addWall_58 (by decide) ?_
        refine lv_icmp_ne (tgt := 67) hx hb dX12_addWall_60 (by decide) (fun c_26 => ?_) (fun c_26 => absurd c_26 (by decide))
        refine lv_iconst (v := 0) hx hb dX12_addWall_67 (by decide) ?_
        have hPc := hP.sub (ws' := [(a1, .inr (17, [.int 0, .ref a2, .ref a3, .ref a4, .long 0]))]) [0] rfl
        have hDc := hD.sub (ws' := [(a1, .inr (17, [.int 0, .ref a2, .ref a3, .ref a4, .long 0]))]) [0] (by decide) rfl
        have hFc := va_free (wc := [(a1, .inr (17, [.int 0, .ref a2, .ref a3, .ref a4, .long 0]))]) hD hS hA [0] rfl
        refine va_calli (va_runV (As := [.int 0]) (rest := []) ⟨hx, hb, hml, hown, hts⟩ (xcX12_isWrong_v2 l hst dC dI T a1 a2 a3 a4 H.size) (cwV 1 hts gX12_addWall_X12_isWrong rfl rfl rfl (by decide +kernel) ⟨Nat.le_of_ble_eq_true rfl, Nat.le_of_ble_eq_true rfl⟩) ⟨xBlind, va_recv hK hPc (ci := 17) (q0 := 0) rfl rfl, xCall hK hG hS hPc hDc hFc⟩ rfl rfl hl.1 rfl (lv_room (Nat.le_of_ble_eq_true rfl)) dX12_addWall_68 ⟨Nat.le_of_ble_eq_true rfl, Nat.le_of_ble_eq_true rfl⟩) hS (fun q _ h => hFc q h) hFc (fun r_9 u t H locs ht hvm hw hB hz1 hk1 hS => ?_)
        subst hw
        rcases hB with ⟨hr_9, hP1, hD1⟩
        rw [ht] at hP1
        subst hr_9
        obtain ⟨hP, hD⟩ := va_join (wr := [(a4, .inr (4, [.int 0, .ref (dI 1000 0), .int 0]))]) (w1 := [(a1, .inr (17, [.int 0, .ref a2, .ref a3, .ref a4, .long 0]))]) hP hD [0] [1] rfl rfl (by decide) (by decide) hk1 hFc hP1 hD1
        have hP := hP.sub (ws' := [(a1, .inr (17, [.int 0, .ref a2, .ref a3, .ref a4, .long 0])), (a4, .inr (4, [.int 0, .ref (dI 1000 0), .int 0]))]) [1, 0] rfl
        have hD := hD.sub (ws' := [(a1, .inr (17, [.int 0, .ref a2, .ref a3, .ref a4, .long 0])), (a4, .inr (4, [.int 0, .ref (dI 1000 0), .int 0]))]) [1, 0] (by decide) rfl
        clear hPc hDc hFc hP1 hD1 hk1 hz1 ht hvm
        refine lv_if_eq (tgt := 76) hx hb dX12_addWall_71 (by decide) (fun c_28 => ?_) (fun c_28 => absurd (by decide) c_28)
        refine lv_aload_n hx hb dX12_addWall_76 rfl (lv_at hl 1 rfl) ?_
        refine va_get (D := (dC, dI)) (ci := 17) (v := .ref a4) (C := RX12) (T := TX12) (N := 5) hx hb hts hin_X12 hown hK hP 0 rfl rfl 3 (by decide) (hts (.fieldLink RX12 22 "NearestwardModel" "walls" "Ljava/util/List;") (by decide +kernel)) (fun _ h9 => h9) rfl dX12_addWall_77 ?_
        refine lv_iconst (v := 4) hx hb dX12_addWall_80 (by decide) ?_
        refine xNewa (atype := .int) (ty := .int) (N' := 4) (a0 := (4, .inl (fun _ => 0))) 0 rfl hx hb (hts (.arrayClass .int) (by decide +kernel)) rfl hK hP hD hS hA (fun _ => rfl) (by decide) (by decide) (by decide) (Nat.le_of_ble_eq_true rfl) (Nat.le_of_ble_eq_true rfl) dX12_addWall_81 (fun q_29 H hP hD hS => ?_)
        have hP : va_P (dC, dI) vwCl [(a1, .inr (17, [.int 0, .ref a2, .ref a3, .ref a4, .long 0])), (a4, .inr (4, [.int 0, .ref (dI 1000 0), .int 0])), (q_29, .inl (T 0, 4, .inl (fun _ => 0)))] H := hP
        have hD : va_D A [(a1, .inr (17, [.int 0, .ref a2, .ref a3, .ref a4, .long 0])), (a4, .inr (4, [.int 0, .ref (dI 1000 0), .int 0])), (q_29, .inl (T 0, 4, .inl (fun _ => 0)))] := hD
        refine W.widen (k := 1) (n := 4) (by omega) (by omega) ?_
        refine lv_dup hx hb dX12_addWall_83 rfl ?_
        refine lv_iconst (v := 0) hx hb dX12_addWall_84 (by decide) ?_
        refine lv_iload_n hx hb dX12_addWall_85 rfl (lv_at hl 2 rfl) ?_
        refine va_iast hx hb hK hP hD hS 2 0 rfl rfl (show vp_in 0 4 by unfold vp_in; decide) dX12_addWall_86 (fun H locs hP hD hS => ?_)
        have hP : va_P (dC, dI) vwCl [(a1, .inr (17, [.int 0, .ref a2, .ref a3, .ref a4, .long 0])), (a4, .inr (4, [.int 0, .ref (dI 1000 0), .int 0])), (q_29, .inl (T 0, 4, .inl (upd (fun _ => 0) (0 : Int32).toNatClampNeg p1)))] H := hP
        have hD : va_D A [(a1, .inr (17, [.int 0, .ref a2, .ref a3, .ref a4, .long 0])), (a4, .inr (4, [.int 0, .ref (dI 1000 0), .int 0])), (q_29, .inl (T 0, 4, .inl (upd (fun _ => 0) (0 : Int32).toNatClampNeg p1)))] := hD
        refine lv_dup hx hb dX12_addWall_87 rfl ?_
        refine lv_iconst (v := 1) hx hb dX12_addWall_88 (by decide) ?_
        refine lv_iload_n hx hb dX12_addWall_89 rfl (lv_at hl 3 rfl) ?_
        refine va_iast hx hb hK hP hD hS 2 0 rfl rfl (show vp_in 1 4 by unfold vp_in; decide) dX12_addWall_90 (fun H locs hP hD hS => ?_)
        have hP : va_P (dC, dI) vwCl [(a1, .inr (17, [.int 0, .ref a2, .ref a3, .ref a4, .long 0])), (a4, .inr (4, [.int 0, .ref (dI 1000 0), .int 0])), (q_29, .inl (T 0, 4, .inl (upd (upd (fun _ => 0) (0 : Int32).toNatClampNeg p1) (1 : Int32).toNatClampNeg p2)))] H := hP
        have hD : va_D A [(a1, .inr (17, [.int 0, .ref a2, .ref a3, .ref a4, .long 0])), (a4, .inr (4, [.int 0, .ref (dI 1000 0), .int 0])), (q_29, .inl (T 0, 4, .inl (upd (upd (fun _ => 0) (0 : Int32).toNatClampNeg p1) (1 : Int32).toNatClampNeg p2)))] := hD
        refine lv_dup hx hb dX12_addWall_91 rfl ?_
        refine lv_iconst (v := 2) hx hb dX12_addWall_92 (by decide) ?_
        refine lv_iload_n hx hb dX12_addWall_93 rfl (lv_at hl 4 rfl) ?_
        refine va_iast hx hb hK hP hD hS 2 0 rfl rfl (show vp_in 2 4 by unfold vp_in; decide) dX12_addWall_94 (fun H locs hP hD hS => ?_)
        have hP : va_P (dC, dI) vwCl [(a1, .inr (17, [.int 0, .ref a2, .ref a3, .ref a4, .long 0])), (a4, .inr (4, [.int 0, .ref (dI 1000 0), .int 0])), (q_29, .inl (T 0, 4, .inl (upd (upd (upd (fun _ => 0) (0 : Int32).toNatClampNeg p1) (1 : Int32).toNatClampNeg p2) (2 : Int32).toNatClampNeg p3)))] H := hP
        have hD : va_D A [(a1, .inr (17, [.int 0, .ref a2, .ref a3, .ref a4, .long 0])), (a4, .inr (4, [.int 0, .ref (dI 1000 0), .int 0])), (q_29, .inl (T 0, 4, .inl (upd (upd (upd (fun _ => 0) (0 : Int32).toNatClampNeg p1) (1 : Int32).toNatClampNeg p2) (2 : Int32).toNatClampNeg p3)))] := hD
        refine lv_dup hx hb dX12_addWall_95 rfl ?_
        refine lv_iconst (v := 3) hx hb dX12_addWall_96 (by decide) ?_
        refine lv_iload hx hb dX12_addWall_97 (lv_at hl 5 rfl) ?_
        refine va_iast hx hb hK hP hD hS 2 0 rfl rfl (show vp_in 3 4 by unfold vp_in; decide) dX12_addWall_99 (fun H locs hP hD hS => ?_)
        have hP : va_P (dC, dI) vwCl [(a1, .inr (17, [.int 0, .ref a2, .ref a3, .ref a4, .long 0])), (a4, .inr (4, [.int 0, .ref (dI 1000 0), .int 0])), (q_29, .inl (T 0, 4, .inl (upd (upd (upd (upd (fun _ => 0) (0 : Int32).toNatClampNeg p1) (1 : Int32).toNatClampNeg p2) (2 : Int32).toNatClampNeg p3) (3 : Int32).toNatClampNeg p4)))] H := hP
        have hD : va_D A [(a1, .inr (17, [.int 0, .ref a2, .ref a3, .ref a4, .long 0])), (a4, .inr (4, [.int 0, .ref (dI 1000 0), .int 0])), (q_29, .inl (T 0, 4, .inl (upd (upd (upd (upd (fun _ => 0) (0 : Int32).toNatClampNeg p1) (1 : Int32).toNatClampNeg p2) (2 : Int32).toNatClampNeg p3) (3 : Int32).toNatClampNeg p4)))] := hD
        have hPc := hP.sub (ws' := [(a4, .inr (4, [.int 0, .ref (dI 1000 0), .int 0])), (q_29, .inl (T 0, 4, .inl (upd (upd (upd (upd (fun _ => 0) (0 : Int32).toNatClampNeg p1) (1 : Int32).toNatClampNeg p2) (2 : Int32).toNatClampNeg p3) (3 : Int32).toNatClampNeg p4)))]) [1, 2] rfl
        have hDc := hD.sub (ws' := [(a4, .inr (4, [.int 0, .ref (dI 1000 0), .int 0])), (q_29, .inl (T 0, 4, .inl (upd (upd (upd (upd (fun _ => 0) (0 : Int32).toNatClampNeg p1) (1 : Int32).toNatClampNeg p2) (2 : Int32).toNatClampNeg p3) (3 : Int32).toNatClampNeg p4)))]) [1, 2] (by decide) rfl
        have hFc := va_free (wc := [(a4, .inr (4, [.int 0, .ref (dI 1000 0), .int 0])), (q_29, .inl (T 0, 4, .inl (upd (upd (upd (upd (fun _ => 0) (0 : Int32).toNatClampNeg p1) (1 : Int32).toNatClampNeg p2) (2 : Int32).toNatClampNeg p3) (3 : Int32).toNatClampNeg p4)))]) hD hS hA [1, 2] rfl
        refine va_callFi (va_runF (As := [.ref q_29]) (rest := []) (hK.1 4 _ rfl).2 ⟨hx, hb, hml, hown, hts⟩ (xcJx4a65c_add_9ea2d_v2 l hst dC dI T a4 q_29 H.size (upd (upd (upd (upd (fun _ => 0) (0 : Int32).toNatClampNeg p1) (1 : Int32).toNatClampNeg p2) (2 : Int32).toNatClampNeg p3) (3 : Int32).toNatClampNeg p4)) (va_cwF 1 hts gX12_addWall_Jx4a65c_add_9ea2d_f50Jx4a65c rfl rfl rfl (hG.2.2.2.2.2.2.1 ((⟨"java/util/List", "add", "(Ljava/lang/Object;)Z"⟩ : MethodName), yJx4a65c_add_9ea2d) (List.mem_of_getElem? (i := 0) rfl)) (by decide +kernel) ⟨Nat.le_of_ble_eq_true rfl, Nat.le_of_ble_eq_true rfl⟩) ⟨xBlind, va_recv hK hPc (ci := 4) (q0 := 0) rfl rfl, xCall hK hG hS hPc hDc hFc⟩ rfl rfl hl.1 rfl (lv_room (Nat.le_of_ble_eq_true rfl)) dX12_addWall_100 ⟨Nat.le_of_ble_eq_true rfl, Nat.le_of_ble_eq_true rfl⟩) hS (fun q _ h => hFc q h) hFc (fun r_9 u t H locs ht hvm hw hB hz1 hk1 hS => ?_)
        subst hw
        rcases hB with ⟨q_30, hr_9, hP1, hD1⟩
        rw [ht] at hP1
        subst hr_9
        obtain ⟨hP, hD⟩ := va_join (wr := [(a1, .inr (17, [.int 0, .ref a2, .ref a3, .ref a4, .long 0]))]) (w1 := [(a4, .inr (4, [.int 1, .ref q_30, .int 1])), (q_29, .inl (T 0, 4, .inl (upd (upd (upd (upd (fun _ => 0) (0 : Int32).toNatClampNeg p1) (1 : Int32).toNatClampNeg p2) (2 : Int32).toNatClampNeg p3) (3 : Int32).toNatClampNeg p4))), (q_30, .inl (T 4, 10, .inr (.inr (.inr (.inr (va_up (fun _ => none) (0 : Int32).toNatClampNeg (some q_29)))))))]) hP hD [1, 2] [0] rfl rfl (by decide) (by decide) hk1 hFc hP1 hD1
        have hP : va_P (dC, dI) vwCl [(a1, .inr (17, [.int 0, .ref a2, .ref a3, .ref a4, .long 0])), (a4, .inr (4, [.int 1, .ref q_30, .int 1])), (q_29, .inl (T 0, 4, .inl (upd (upd (upd (upd (fun _ => 0) (0 : Int32).toNatClampNeg p1) (1 : Int32).toNatClampNeg p2) (2 : Int32).toNatClampNeg p3) (3 : Int32).toNatClampNeg p4))), (q_30, .inl (T 4, 10, .inr (.inr (.inr (.inr (va_up (fun _ => none) (0 : Int32).toNatClampNeg (some q_29)))))))] H := hP
        have hD : va_D A [(a1, .inr (17, [.int 0, .ref a2, .ref a3, .ref a4, .long 0])), (a4, .inr (4, [.int 1, .ref q_30, .int 1])), (q_29, .inl (T 0, 4, .inl (upd (upd (upd (upd (fun _ => 0) (0 : Int32).toNatClampNeg p1) (1 : Int32).toNatClampNeg p2) (2 : Int32).toNatClampNeg p3) (3 : Int32).toNatClampNeg p4))), (q_30, .inl (T 4, 10, .inr (.inr (.inr (.inr (va_up (fun _ => none) (0 : Int32).toNatClampNeg (some q_29)))))))] := hD
        clear hPc hDc hFc hP1 hD1 hk1 hz1 ht hvm
        refine lv_pop hx hb dX12_addWall_105 rfl ?_
        refine lv_aload_n hx hb dX12_addWall_106 rfl (lv_at hl 1 rfl) ?_
        refine va_get (D := (dC, dI)) (ci := 17) (v := .ref a4) (C := RX12) (T := TX12) (N := 5) hx hb hts hin_X12 hown hK hP 0 rfl rfl 3 (by decide) (hts (.fieldLink RX12 22 "NearestwardModel" "walls" "Ljava/util/List;") (by decide +kernel)) (fun _ h9 => h9) rfl dX12_addWall_107 ?_
        have hPc := hP.sub (ws' := [(a4, .inr (4, [.int 1, .ref q_30, .int 1]))]) [1] rfl
        have hDc := hD.sub (ws' := [(a4, .inr (4, [.int 1, .ref q_30, .int 1]))]) [1] (by decide) rfl
        have hFc := va_free (wc := [(a4, .inr (4, [.int 1, .ref q_30, .int 1]))]) hD hS hA [1] rfl
        refine va_callFi (va_runF (As := []) (rest := []) (hK.1 4 _ rfl).2 ⟨hx, hb, hml, hown, hts⟩ (xcJx4a65c_size_8abf5 l hst dC dI T a4 q_30 H.size) (va_cwF 0 hts gX12_addWall_Jx4a65c_size_8abf5_f56Jx4a65c rfl rfl rfl (hG.2.2.2.2.2.2.1 ((⟨"java/util/List", "size", "()I"⟩ : MethodName), yJx4a65c_size_8abf5) (List.mem_of_getElem? (i := 1) rfl)) (by decide +kernel) ⟨Nat.le_of_ble_eq_true rfl, Nat.le_of_ble_eq_true rfl⟩) ⟨xBlind, va_recv hK hPc (ci := 4) (q0 := 0) rfl rfl, xCall hK hG hS hPc hDc hFc⟩ rfl rfl hl.1 rfl (lv_room (Nat.le_of_ble_eq_true rfl)) dX12_addWall_110 ⟨Nat.le_of_ble_eq_true rfl, Nat.le_of_ble_eq_true rfl⟩) hS (fun q _ h => hFc q h) hFc (fun r_9 u t H locs ht hvm hw hB hz1 hk1 hS => ?_)
        subst hw
        rcases hB with ⟨hr_9, hP1, hD1⟩
        rw [ht] at hP1
        subst hr_9
        obtain ⟨hP, hD⟩ := va_join (wr := [(a1, .inr (17, [.int 0, .ref a2, .ref a3, .ref a4, .long 0])), (q_29, .inl (T 0, 4, .inl (upd (upd (upd (upd (fun _ => 0) (0 : Int32).toNatClampNeg p1) (1 : Int32).toNatClampNeg p2) (2 : Int32).toNatClampNeg p3) (3 : Int32).toNatClampNeg p4))), (q_30, .inl (T 4, 10, .inr (.inr (.inr (.inr (va_up (fun _ => none) (0 : Int32).toNatClampNeg (some q_29)))))))]) (w1 := [(a4, .inr (4, [.int 1, .ref q_30, .int 1]))]) hP hD [1] [0, 2, 3] rfl rfl (by decide) (by decide) hk1 hFc hP1 hD1
        have hP := hP.sub (ws' := [(a1, .inr (17, [.int 0, .ref a2, .ref a3, .ref a4, .long 0])), (a4, .inr (4, [.int 1, .ref q_30, .int 1])), (q_29, .inl (T 0, 4, .inl (upd (upd (upd (upd (fun _ => 0) (0 : Int32).toNatClampNeg p1) (1 : Int32).toNatClampNeg p2) (2 : Int32).toNatClampNeg p3) (3 : Int32).toNatClampNeg p4))), (q_30, .inl (T 4, 10, .inr (.inr (.inr (.inr (va_up (fun _ => none) (0 : Int32).toNatClampNeg (some q_29)))))))]) [0, 3, 1, 2] rfl
        have hD := hD.sub (ws' := [(a1, .inr (17, [.int 0, .ref a2, .ref a3, .ref a4, .long 0])), (a4, .inr (4, [.int 1, .ref q_30, .int 1])), (q_29, .inl (T 0, 4, .inl (upd (upd (upd (upd (fun _ => 0) (0 : Int32).toNatClampNeg p1) (1 : Int32).toNatClampNeg p2) (2 : Int32).toNatClampNeg p3) (3 : Int32).toNatClampNeg p4))), (q_30, .inl (T 4, 10, .inr (.inr (.inr (.inr (va_up (fun _ => none) (0 : Int32).toNatClampNeg (some q_29)))))))]) [0, 3, 1, 2] (by decide) rfl
        clear hPc hDc hFc hP1 hD1 hk1 hz1 ht hvm
        refine lv_iconst (v := 1) hx hb dX12_addWall_115 (by decide) ?_
        refine lv_isub hx hb dX12_addWall_116 ?_
        refine lv_topi (fun f_33 ef_33 => ?_)
        obtain rfl : f_33 = 0 := ef_33.trans (by decide)
        have hP9 := hP.sub (ws' := [(a1, .inr (17, [.int 0, .ref a2, .ref a3, .ref a4, .long 0]))]) [0] rfl
        have hD9 := hD.sub (ws' := [(a1, .inr (17, [.int 0, .ref a2, .ref a3, .ref a4, .long 0]))]) [0] (by decide) rfl
        exact W.iret (v := 0) hx hb hr (fun t ht hW => ⟨⟨_, _, rfl, rfl, (Or.inr (⟨(Or.inl ⟨c_2, c_13, nc_23⟩), rfl, by rw [ht]; exact hP9, hD9⟩))⟩, hS.F ht⟩) hS.2.2 dX12_addWall_117
      · have nc_23 : p1.toInt = p3.toInt := (xi_eq rfl rfl).mp c_23
        refine lv_iload_n hx hb dX12_addWall_26 rfl (lv_at hl 2 rfl) ?_
        refine lv_iload hx hb dX12_addWall_27 (lv_at hl 4 rfl) ?_
        refine lv_icmp_eq (tgt := 36) hx hb dX12_addWall_29 (by decide) (fun c_34 => ?_) (fun c_34 => ?_)
        · have nc_34 : p2.toInt = p4.toInt := (xi_eq rfl rfl).mp c_34
          refine lv_iconst (v := 0) hx hb dX12_addWall_36 (by decide) ?_
          refine lv_istore (lv' := [(5, .int 0), (0, .ref a1), (1, .int p1), (2, .int p2), (3, .int p3), (4, .int p4)]) hx hb dX12_addWall_37 hl (by decide) rfl (fun ls hl => ?_)
          refine lv_aload_n hx hb dX12_addWall_39 rfl (lv_at hl 1 rfl) ?_
          refine lv_iload hx hb dX12_addWall_40 (lv_at hl 0 rfl) ?_
          refine lv_if_ne (tgt := 49) hx hb dX12_addWall_42 (by decide) (fun c_35 => absurd c_35 (by decide)) (fun c_35 => ?_)
          refine lv_iconst (v := 1) hx hb dX12_addWall_45 (by decide) ?_
          refine lv_goto (tgt := 68) hx hb dX12_addWall_46 (by decide) ?_
          have hPc := hP.sub (ws' := [(a1, .inr (17, [.int 0, .ref a2, .ref a3, .ref a4, .long 0]))]) [0] rfl
          have hDc := hD.sub (ws' := [(a1, .inr (17, [.int 0, .ref a2, .ref a3, .ref a4, .long 0]))]) [0] (by decide) rfl
          have hFc := va_free (wc := [(a1, .inr (17, [.int 0, .ref a2, .ref a3, .ref a4, .long 0]))]) hD hS hA [0] rfl
          refine va_calli (va_runV (As := [.int 1]) (rest := []) ⟨hx, hb, hml, hown, hts⟩ (xcX12_isWrong l hst dC dI T a1 a2 a3 a4 H.size) (cwV 1 hts gX12_addWall_X12_isWrong rfl rfl rfl (by decide +kernel) ⟨Nat.le_of_ble_eq_true rfl, Nat.le_of_ble_eq_true rfl⟩) ⟨xBlind, va_recv hK hPc (ci := 17) (q0 := 0) rfl rfl, xCall hK hG hS hPc hDc hFc⟩ rfl rfl hl.1 rfl (lv_room (Nat.le_of_ble_eq_true rfl)) dX12_addWall_68 ⟨Nat.le_of_ble_eq_true rfl, Nat.le_of_ble_eq_true rfl⟩) hS (fun q _ h => hFc q h) hFc (fun r_9 u t H locs ht hvm hw hB hz1 hk1 hS => ?_)
          subst hw
          rcases hB with ⟨hr_9, hP1, hD1⟩
          rw [ht] at hP1
          subst hr_9
          obtain ⟨hP, hD⟩ := va_join (wr := [(a4, .inr (4, [.int 0, .ref (dI 1000 0), .int 0]))]) (w1 := [(a1, .inr (17, [.int 1, .ref a2, .ref a3, .ref a4, .long 0]))]) hP hD [0] [1] rfl rfl (by decide) (by decide) hk1 hFc hP1 hD1
          have hP := hP.sub (ws' := [(a1, .inr (17, [.int 1, .ref a2, .ref a3, .ref a4, .long 0])), (a4, .inr (4, [.int 0, .ref (dI 1000 0), .int 0]))]) [1, 0] rfl
          have hD := hD.sub (ws' := [(a1, .inr (17, [.int 1, .ref a2, .ref a3, .ref a4, .long 0])), (a4, .inr (4, [.int 0, .ref (dI 1000 0), .int 0]))]) [1, 0] (by decide) rfl
          clear hPc hDc hFc hP1 hD1 hk1 hz1 ht hvm
          refine lv_if_eq (tgt := 76) hx hb dX12_addWall_71 (by decide) (fun c_37 => absurd c_37 (by decide)) (fun c_37 => ?_)
          refine lv_iconst (v := 0) hx hb dX12_addWall_74 (by decide) ?_
          have hP9 := hP.sub (ws' := [(a1, .inr (17, [.int 1, .ref a2, .ref a3, .ref a4, .long 0]))]) [0] rfl
          have hD9 := hD.sub (ws' := [(a1, .inr (17, [.int 1, .ref a2, .ref a3, .ref a4, .long 0]))]) [0] (by decide) rfl
          refine W.widen (k := 2) (n := 14) (Nat.le_of_ble_eq_true rfl) (Nat.le_of_ble_eq_true rfl) ?_
          exact W.iret (v := 0) hx hb hr (fun t ht hW => ⟨⟨_, _, rfl, rfl, (Or.inl ⟨(Or.inr (Or.inr (⟨c_2, c_13, nc_23, nc_34⟩))), rfl, by rw [ht]; exact hP9, hD9⟩)⟩, hS.F ht⟩) hS.2.2 dX12_addWall_75
        · have nc_34 : ¬ (p2.toInt = p4.toInt) := mt (xi_eq rfl rfl).mpr c_34
          refine lv_iconst (v := 1) hx hb dX12_addWall_32 (by decide) ?_
          refine lv_goto (tgt := 37) hx hb dX12_addWall_33 (by decide) ?_
          refine lv_istore (lv' := [(5, .int 1), (0, .ref a1), (1, .int p1), (2, .int p2), (3, .int p3), (4, .int p4)]) hx hb dX12_addWall_37 hl (by decide) rfl (fun ls hl => ?_)
          refine lv_aload_n hx hb dX12_addWall_39 rfl (lv_at hl 1 rfl) ?_
          refine lv_iload hx hb dX12_addWall_40 (lv_at hl 0 rfl) ?_
          refine lv_if_ne (tgt := 49) hx hb dX12_addWall_42 (by decide) (fun c_38 => ?_) (fun c_38 => absurd c_38 (by decide))
          refine lv_aload_n hx hb dX12_addWall_49 rfl (lv_at hl 1 rfl) ?_
          refine va_get (D := (dC, dI)) (ci := 17) (v := .ref a4) (C := RX12) (T := TX12) (N := 5) hx hb hts hin_X12 hown hK hP 0 rfl rfl 3 (by decide) (hts (.fieldLink RX12 22 "NearestwardModel" "walls" "Ljava/util/List;") (by decide +kernel)) (fun _ h9 => h9) rfl dX12_addWall_50 ?_
          have hPc := hP.sub (ws' := [(a4, .inr (4, [.int 0, .ref (dI 1000 0), .int 0]))]) [1] rfl
          have hDc := hD.sub (ws' := [(a4, .inr (4, [.int 0, .ref (dI 1000 0), .int 0]))]) [1] (by decide) rfl
          have hFc := va_free (wc := [(a4, .inr (4, [.int 0, .ref (dI 1000 0), .int 0]))]) hD hS hA [1] rfl
          refine va_callFi (va_runF (As := []) (rest := [.ref a1]) (hK.1 4 _ rfl).2 ⟨hx, hb, hml, hown, hts⟩ (xcJx4a65c_size_8abf5_v2 l hst dC dI T a4 H.size) (va_cwF 0 hts gX12_addWall_Jx4a65c_size_8abf5_f56Jx4a65c rfl rfl rfl (hG.2.2.2.2.2.2.1 ((⟨"java/util/List", "size", "()I"⟩ : MethodName), yJx4a65c_size_8abf5) (List.mem_of_getElem? (i := 1) rfl)) (by decide +kernel) ⟨Nat.le_of_ble_eq_true rfl, Nat.le_of_ble_eq_true rfl⟩) ⟨xBlind, va_recv hK hPc (ci := 4) (q0 := 0) rfl rfl, xCall hK hG hS hPc hDc hFc⟩ rfl rfl hl.1 rfl (lv_room (Nat.le_of_ble_eq_true rfl)) dX12_addWall_53 ⟨Nat.le_of_ble_eq_true rfl, Nat.le_of_ble_eq_true rfl⟩) hS (fun q _ h => hFc q h) hFc (fun r_9 u t H locs ht hvm hw hB hz1 hk1 hS => ?_)
          subst hw
          rcases hB with ⟨hr_9, hP1, hD1⟩
          rw [ht] at hP1
          subst hr_9
          obtain ⟨hP, hD⟩ := va_join (wr := [(a1, .inr (17, [.int 0, .ref a2, .ref a3, .ref a4, .long 0]))]) (w1 := [(a4, .inr (4, [.int 0, .ref (dI 1000 0), .int 0]))]) hP hD [1] [0] rfl rfl (by decide) (by decide) hk1 hFc hP1 hD1
          have hP : va_P (dC, dI) vwCl [(a1, .inr (17, [.int 0, .ref a2, .ref a3, .ref a4, .long 0])), (a4, .inr (4, [.int 0, .ref (dI 1000 0), .int 0]))] H := hP
          have hD : va_D A [(a1, .inr (17, [.int 0, .ref a2, .ref a3, .ref a4, .long 0])), (a4, .inr (4, [.int 0, .ref (dI 1000 0), .int 0]))] := hD
          clear hPc hDc hFc hP1 hD1 hk1 hz1 ht hvm
          refine lv_bipush (v := 10) hx hb dX12_addWall_58 (by decide) ?_
          refine lv_icmp_ne (tgt := 67) hx hb dX12_addWall_60 (by decide) (fun c_40 => ?_) (fun c_40 => absurd c_40 (by decide))
          refine lv_iconst (v := 0) hx hb dX12_addWall_67 (by decide) ?_
          have hPc := hP.sub (ws' := [(a1, .inr (17, [.int 0, .ref a2, .ref a3, .ref a4, .long 0]))]) [0] rfl
          have hDc := hD.sub (ws' := [(a1, .inr (17, [.int 0, .ref a2, .ref a3, .ref a4, .long 0]))]) [0] (by decide) rfl
          have hFc := va_free (wc := [(a1, .inr (17, [.int 0, .ref a2, .ref a3, .ref a4, .long 0]))]) hD hS hA [0] rfl
          refine va_calli (va_runV (As := [.int 0]) (rest := []) ⟨hx, hb, hml, hown, hts⟩ (xcX12_isWrong_v2 l hst dC dI T a1 a2 a3 a4 H.size) (cwV 1 hts gX12_addWall_X12_isWrong rfl rfl rfl (by decide +kernel) ⟨Nat.le_of_ble_eq_true rfl, Nat.le_of_ble_eq_true rfl⟩) ⟨xBlind, va_recv hK hPc (ci := 17) (q0 := 0) rfl rfl, xCall hK hG hS hPc hDc hFc⟩ rfl rfl hl.1 rfl (lv_room (Nat.le_of_ble_eq_true rfl)) dX12_addWall_68 ⟨Nat.le_of_ble_eq_true rfl, Nat.le_of_ble_eq_true rfl⟩) hS (fun q _ h => hFc q h) hFc (fun r_9 u t H locs ht hvm hw hB hz1 hk1 hS => ?_)
          subst hw
          rcases hB with ⟨hr_9, hP1, hD1⟩
          rw [ht] at hP1
          subst hr_9
          obtain ⟨hP, hD⟩ := va_join (wr := [(a4, .inr (4, [.int 0, .ref (dI 1000 0), .int 0]))]) (w1 := [(a1, .inr (17, [.int 0, .ref a2, .ref a3, .ref a4, .long 0]))]) hP hD [0] [1] rfl rfl (by decide) (by decide) hk1 hFc hP1 hD1
          have hP := hP.sub (ws' := [(a1, .inr (17, [.int 0, .ref a2, .ref a3, .ref a4, .long 0])), (a4, .inr (4, [.int 0, .ref (dI 1000 0), .int 0]))]) [1, 0] rfl
          have hD := hD.sub (ws' := [(a1, .inr (17, [.int 0, .ref a2, .ref a3, .ref a4, .long 0])), (a4, .inr (4, [.int 0, .ref (dI 1000 0), .int 0]))]) [1, 0] (by decide) rfl
          clear hPc hDc hFc hP1 hD1 hk1 hz1 ht hvm
          refine lv_if_eq (tgt := 76) hx hb dX12_addWall_71 (by decide) (fun c_42 => ?_) (fun c_42 => absurd (by decide) c_42)
          refine lv_aload_n hx hb dX12_addWall_76 rfl (lv_at hl 1 rfl) ?_
          refine va_get (D := (dC, dI)) (ci := 17) (v := .ref a4) (C := RX12) (T := TX12) (N := 5) hx hb hts hin_X12 hown hK hP 0 rfl rfl 3 (by decide) (hts (.fieldLink RX12 22 "NearestwardModel" "walls" "Ljava/util/List;") (by decide +kernel)) (fun _ h9 => h9) rfl dX12_addWall_77 ?_
          refine lv_iconst (v := 4) hx hb dX12_addWall_80 (by decide) ?_
          refine xNewa (atype := .int) (ty := .int) (N' := 4) (a0 := (4, .inl (fun _ => 0))) 0 rfl hx hb (hts (.arrayClass .int) (by decide +kernel)) rfl hK hP hD hS hA (fun _ => rfl) (by decide) (by decide) (by decide) (Nat.le_of_ble_eq_true rfl) (Nat.le_of_ble_eq_true rfl) dX12_addWall_81 (fun q_43 H hP hD hS => ?_)
          have hP : va_P (dC, dI) vwCl [(a1, .inr (17, [.int 0, .ref a2, .ref a3, .ref a4, .long 0])), (a4, .inr (4, [.int 0, .ref (dI 1000 0), .int 0])), (q_43, .inl (T 0, 4, .inl (fun _ => 0)))] H := hP
          have hD : va_D A [(a1, .inr (17, [.int 0, .ref a2, .ref a3, .ref a4, .long 0])), (a4, .inr (4, [.int 0, .ref (dI 1000 0), .int 0])), (q_43, .inl (T 0, 4, .inl (fun _ => 0)))] := hD
          refine W.widen (k := 1) (n := 4) (by omega) (by omega) ?_
          refine lv_dup hx hb dX12_addWall_83 rfl ?_
          refine lv_iconst (v := 0) hx hb dX12_addWall_84 (by decide) ?_
          refine lv_iload_n hx hb dX12_addWall_85 rfl (lv_at hl 2 rfl) ?_
          refine va_iast hx hb hK hP hD hS 2 0 rfl rfl (show vp_in 0 4 by unfold vp_in; decide) dX12_addWall_86 (fun H locs hP hD hS => ?_)
          have hP : va_P (dC, dI) vwCl [(a1, .inr (17, [.int 0, .ref a2, .ref a3, .ref a4, .long 0])), (a4, .inr (4, [.int 0, .ref (dI 1000 0), .int 0])), (q_43, .inl (T 0, 4, .inl (upd (fun _ => 0) (0 : Int32).toNatClampNeg p1)))] H := hP
          have hD : va_D A [(a1, .inr (17, [.int 0, .ref a2, .ref a3, .ref a4, .long 0])), (a4, .inr (4, [.int 0, .ref (dI 1000 0), .int 0])), (q_43, .inl (T 0, 4, .inl (upd (fun _ => 0) (0 : Int32).toNatClampNeg p1)))] := hD
          refine lv_dup hx hb dX12_addWall_87 rfl ?_
          refine lv_iconst (v := 1) hx hb dX12_addWall_88 (by decide) ?_
          refine lv_iload_n hx hb dX12_addWall_89 rfl (lv_at hl 3 rfl) ?_
          refine va_iast hx hb hK hP hD hS 2 0 rfl rfl (show vp_in 1 4 by unfold vp_in; decide) dX12_addWall_90 (fun H locs hP hD hS => ?_)
          have hP : va_P (dC, dI) vwCl [(a1, .inr (17, [.int 0, .ref a2, .ref a3, .ref a4, .long 0])), (a4, .inr (4, [.int 0, .ref (dI 1000 0), .int 0])), (q_43, .inl (T 0, 4, .inl (upd (upd (fun _ => 0) (0 : Int32).toNatClampNeg p1) (1 : Int32).toNatClampNeg p2)))] H := hP
          have hD : va_D A [(a1, .inr (17, [.int 0, .ref a2, .ref a3, .ref a4, .long 0])), (a4, .inr (4, [.int 0, .ref (dI 1000 0), .int 0])), (q_43, .inl (T 0, 4, .inl (upd (upd (fun _ => 0) (0 : Int32).toNatClampNeg p1) (1 : Int32).toNatClampNeg p2)))] := hD
          refine lv_dup hx hb dX12_addWall_91 rfl ?_
          refine lv_iconst (v := 2) hx hb dX12_addWall_92 (by decide) ?_
          refine lv_iload_n hx hb dX12_addWall_93 rfl (lv_at hl 4 rfl) ?_
          refine va_iast hx hb hK hP hD hS 2 0 rfl rfl (show vp_in 2 4 by unfold vp_in; decide) dX12_addWall_94 (fun H locs hP hD hS => ?_)
          have hP : va_P (dC, dI) vwCl [(a1, .inr (17, [.int 0, .ref a2, .ref a3, .ref a4, .long 0])), (a4, .inr (4, [.int 0, .ref (dI 1000 0), .int 0])), (q_43, .inl (T 0, 4, .inl (upd (upd (upd (fun _ => 0) (0 : Int32).toNatClampNeg p1) (1 : Int32).toNatClampNeg p2) (2 : Int32).toNatClampNeg p3)))] H := hP
          have hD : va_D A [(a1, .inr (17, [.int 0, .ref a2, .ref a3, .ref a4, .long 0])), (a4, .inr (4, [.int 0, .ref (dI 1000 0), .int 0])), (q_43, .inl (T 0, 4, .inl (upd (upd (upd (fun _ => 0) (0 : Int32).toNatClampNeg p1) (1 : Int32).toNatClampNeg p2) (2 : Int32).toNatClampNeg p3)))] := hD
          refine lv_dup hx hb dX12_addWall_95 rfl ?_
          refine lv_iconst (v := 3) hx hb dX12_addWall_96 (by decide) ?_
          refine lv_iload hx hb dX12_addWall_97 (lv_at hl 5 rfl) ?_
          refine va_iast hx hb hK hP hD hS 2 0 rfl rfl (show vp_in 3 4 by unfold vp_in; decide) dX12_addWall_99 (fun H locs hP hD hS => ?_)
          have hP : va_P (dC, dI) vwCl [(a1, .inr (17, [.int 0, .ref a2, .ref a3, .ref a4, .long 0])), (a4, .inr (4, [.int 0, .ref (dI 1000 0), .int 0])), (q_43, .inl (T 0, 4, .inl (upd (upd (upd (upd (fun _ => 0) (0 : Int32).toNatClampNeg p1) (1 : Int32).toNatClampNeg p2) (2 : Int32).toNatClampNeg p3) (3 : Int32).toNatClampNeg p4)))] H := hP
          have hD : va_D A [(a1, .inr (17, [.int 0, .ref a2, .ref a3, .ref a4, .long 0])), (a4, .inr (4, [.int 0, .ref (dI 1000 0), .int 0])), (q_43, .inl (T 0, 4, .inl (upd (upd (upd (upd (fun _ => 0) (0 : Int32).toNatClampNeg p1) (1 : Int32).toNatClampNeg p2) (2 : Int32).toNatClampNeg p3) (3 : Int32).toNatClampNeg p4)))] := hD
          have hPc := hP.sub (ws' := [(a4, .inr (4, [.int 0, .ref (dI 1000 0), .int 0])), (q_43, .inl (T 0, 4, .inl (upd (upd (upd (upd (fun _ => 0) (0 : Int32).toNatClampNeg p1) (1 : Int32).toNatClampNeg p2) (2 : Int32).toNatClampNeg p3) (3 : Int32).toNatClampNeg p4)))]) [1, 2] rfl
          have hDc := hD.sub (ws' := [(a4, .inr (4, [.int 0, .ref (dI 1000 0), .int 0])), (q_43, .inl (T 0, 4, .inl (upd (upd (upd (upd (fun _ => 0) (0 : Int32).toNatClampNeg p1) (1 : Int32).toNatClampNeg p2) (2 : Int32).toNatClampNeg p3) (3 : Int32).toNatClampNeg p4)))]) [1, 2] (by decide) rfl
          have hFc := va_free (wc := [(a4, .inr (4, [.int 0, .ref (dI 1000 0), .int 0])), (q_43, .inl (T 0, 4, .inl (upd (upd (upd (upd (fun _ => 0) (0 : Int32).toNatClampNeg p1) (1 : Int32).toNatClampNeg p2) (2 : Int32).toNatClampNeg p3) (3 : Int32).toNatClampNeg p4)))]) hD hS hA [1, 2] rfl
          refine va_callFi (va_runF (As := [.ref q_43]) (rest := []) (hK.1 4 _ rfl).2 ⟨hx, hb, hml, hown, hts⟩ (xcJx4a65c_add_9ea2d_v2 l hst dC dI T a4 q_43 H.size (upd (upd (upd (upd (fun _ => 0) (0 : Int32).toNatClampNeg p1) (1 : Int32).toNatClampNeg p2) (2 : Int32).toNatClampNeg p3) (3 : Int32).toNatClampNeg p4)) (va_cwF 1 hts gX12_addWall_Jx4a65c_add_9ea2d_f50Jx4a65c rfl rfl rfl (hG.2.2.2.2.2.2.1 ((⟨"java/util/List", "add", "(Ljava/lang/Object;)Z"⟩ : MethodName), yJx4a65c_add_9ea2d) (List.mem_of_getElem? (i := 0) rfl)) (by decide +kernel) ⟨Nat.le_of_ble_eq_true rfl, Nat.le_of_ble_eq_true rfl⟩) ⟨xBlind, va_recv hK hPc (ci := 4) (q0 := 0) rfl rfl, xCall hK hG hS hPc hDc hFc⟩ rfl rfl hl.1 rfl (lv_room (Nat.le_of_ble_eq_true rfl)) dX12_addWall_100 ⟨Nat.le_of_ble_eq_true rfl, Nat.le_of_ble_eq_true rfl⟩) hS (fun q _ h => hFc q h) hFc (fun r_9 u t H locs ht hvm hw hB hz1 hk1 hS => ?_)
          subst hw
          rcases hB with ⟨q_44, hr_9, hP1, hD1⟩
          rw [ht] at hP1
          subst hr_9
          obtain ⟨hP, hD⟩ := va_join (wr := [(a1, .inr (17, [.int 0, .ref a2, .ref a3, .ref a4, .long 0]))]) (w1 := [(a4, .inr (4, [.int 1, .ref q_44, .int 1])), (q_43, .inl (T 0, 4, .inl (upd (upd (upd (upd (fun _ => 0) (0 : Int32).toNatClampNeg p1) (1 : Int32).toNatClampNeg p2) (2 : Int32).toNatClampNeg p3) (3 : Int32).toNatClampNeg p4))), (q_44, .inl (T 4, 10, .inr (.inr (.inr (.inr (va_up (fun _ => none) (0 : Int32).toNatClampNeg (some q_43)))))))]) hP hD [1, 2] [0] rfl rfl (by decide) (by decide) hk1 hFc hP1 hD1
          have hP : va_P (dC, dI) vwCl [(a1, .inr (17, [.int 0, .ref a2, .ref a3, .ref a4, .long 0])), (a4, .inr (4, [.int 1, .ref q_44, .int 1])), (q_43, .inl (T 0, 4, .inl (upd (upd (upd (upd (fun _ => 0) (0 : Int32).toNatClampNeg p1) (1 : Int32).toNatClampNeg p2) (2 : Int32).toNatClampNeg p3) (3 : Int32).toNatClampNeg p4))), (q_44, .inl (T 4, 10, .inr (.inr (.inr (.inr (va_up (fun _ => none) (0 : Int32).toNatClampNeg (some q_43)))))))] H := hP
          have hD : va_D A [(a1, .inr (17, [.int 0, .ref a2, .ref a3, .ref a4, .long 0])), (a4, .inr (4, [.int 1, .ref q_44, .int 1])), (q_43, .inl (T 0, 4, .inl (upd (upd (upd (upd (fun _ => 0) (0 : Int32).toNatClampNeg p1) (1 : Int32).toNatClampNeg p2) (2 : Int32).toNatClampNeg p3) (3 : Int32).toNatClampNeg p4))), (q_44, .inl (T 4, 10, .inr (.inr (.inr (.inr (va_up (fun _ => none) (0 : Int32).toNatClampNeg (some q_43)))))))] := hD
          clear hPc hDc hFc hP1 hD1 hk1 hz1 ht hvm
          refine lv_pop hx hb dX12_addWall_105 rfl ?_
          refine lv_aload_n hx hb dX12_addWall_106 rfl (lv_at hl 1 rfl) ?_
          refine va_get (D := (dC, dI)) (ci := 17) (v := .ref a4) (C := RX12) (T := TX12) (N := 5) hx hb hts hin_X12 hown hK hP 0 rfl rfl 3 (by decide) (hts (.fieldLink RX12 22 "NearestwardModel" "walls" "Ljava/util/List;") (by decide +kernel)) (fun _ h9 => h9) rfl dX12_addWall_107 ?_
          have hPc := hP.sub (ws' := [(a4, .inr (4, [.int 1, .ref q_44, .int 1]))]) [1] rfl
          have hDc := hD.sub (ws' := [(a4, .inr (4, [.int 1, .ref q_44, .int 1]))]) [1] (by decide) rfl
          have hFc := va_free (wc := [(a4, .inr (4, [.int 1, .ref q_44, .int 1]))]) hD hS hA [1] rfl
          refine va_callFi (va_runF (As := []) (rest := []) (hK.1 4 _ rfl).2 ⟨hx, hb, hml, hown, hts⟩ (xcJx4a65c_size_8abf5 l hst dC dI T a4 q_44 H.size) (va_cwF 0 hts gX12_addWall_Jx4a65c_size_8abf5_f56Jx4a65c rfl rfl rfl (hG.2.2.2.2.2.2.1 ((⟨"java/util/List", "size", "()I"⟩ : MethodName), yJx4a65c_size_8abf5) (List.mem_of_getElem? (i := 1) rfl)) (by decide +kernel) ⟨Nat.le_of_ble_eq_true rfl, Nat.le_of_ble_eq_true rfl⟩) ⟨xBlind, va_recv hK hPc (ci := 4) (q0 := 0) rfl rfl, xCall hK hG hS hPc hDc hFc⟩ rfl rfl hl.1 rfl (lv_room (Nat.le_of_ble_eq_true rfl)) dX12_addWall_110 ⟨Nat.le_of_ble_eq_true rfl, Nat.le_of_ble_eq_true rfl⟩) hS (fun q _ h => hFc q h) hFc (fun r_9 u t H locs ht hvm hw hB hz1 hk1 hS => ?_)
          subst hw
          rcases hB with ⟨hr_9, hP1, hD1⟩
          rw [ht] at hP1
          subst hr_9
          obtain ⟨hP, hD⟩ := va_join (wr := [(a1, .inr (17, [.int 0, .ref a2, .ref a3, .ref a4, .long 0])), (q_43, .inl (T 0, 4, .inl (upd (upd (upd (upd (fun _ => 0) (0 : Int32).toNatClampNeg p1) (1 : Int32).toNatClampNeg p2) (2 : Int32).toNatClampNeg p3) (3 : Int32).toNatClampNeg p4))), (q_44, .inl (T 4, 10, .inr (.inr (.inr (.inr (va_up (fun _ => none) (0 : Int32).toNatClampNeg (some q_43)))))))]) (w1 := [(a4, .inr (4, [.int 1, .ref q_44, .int 1]))]) hP hD [1] [0, 2, 3] rfl rfl (by decide) (by decide) hk1 hFc hP1 hD1
          have hP := hP.sub (ws' := [(a1, .inr (17, [.int 0, .ref a2, .ref a3, .ref a4, .long 0])), (a4, .inr (4, [.int 1, .ref q_44, .int 1])), (q_43, .inl (T 0, 4, .inl (upd (upd (upd (upd (fun _ => 0) (0 : Int32).toNatClampNeg p1) (1 : Int32).toNatClampNeg p2) (2 : Int32).toNatClampNeg p3) (3 : Int32).toNatClampNeg p4))), (q_44, .inl (T 4, 10, .inr (.inr (.inr (.inr (va_up (fun _ => none) (0 : Int32).toNatClampNeg (some q_43)))))))]) [0, 3, 1, 2] rfl
          have hD := hD.sub (ws' := [(a1, .inr (17, [.int 0, .ref a2, .ref a3, .ref a4, .long 0])), (a4, .inr (4, [.int 1, .ref q_44, .int 1])), (q_43, .inl (T 0, 4, .inl (upd (upd (upd (upd (fun _ => 0) (0 : Int32).toNatClampNeg p1) (1 : Int32).toNatClampNeg p2) (2 : Int32).toNatClampNeg p3) (3 : Int32).toNatClampNeg p4))), (q_44, .inl (T 4, 10, .inr (.inr (.inr (.inr (va_up (fun _ => none) (0 : Int32).toNatClampNeg (some q_43)))))))]) [0, 3, 1, 2] (by decide) rfl
          clear hPc hDc hFc hP1 hD1 hk1 hz1 ht hvm
          refine lv_iconst (v := 1) hx hb dX12_addWall_115 (by decide) ?_
          refine lv_isub hx hb dX12_addWall_116 ?_
          refine lv_topi (fun f_47 ef_47 => ?_)
          obtain rfl : f_47 = 0 := ef_47.trans (by decide)
          have hP9 := hP.sub (ws' := [(a1, .inr (17, [.int 0, .ref a2, .ref a3, .ref a4, .long 0]))]) [0] rfl
          have hD9 := hD.sub (ws' := [(a1, .inr (17, [.int 0, .ref a2, .ref a3, .ref a4, .long 0]))]) [0] (by decide) rfl
          exact W.iret (v := 0) hx hb hr (fun t ht hW => ⟨⟨_, _, rfl, rfl, (Or.inr (⟨(Or.inr (⟨c_2, c_13, nc_23, nc_34⟩)), rfl, by rw [ht]; exact hP9, hD9⟩))⟩, hS.F ht⟩) hS.2.2 dX12_addWall_117
set_option maxHeartbeats 4000000 in
set_option maxRecDepth 100000 in
theorem xcX12_isBetween_v2 (l : Launch) (hst : l.stackTraces = false) (dC : Nat → ClassId) (dI : Nat → Nat → Nat) (T : Nat → ClassId) (sz : Nat) (p0 : Int64) : Met l yX12_isBetween wsX12_isBetween ({ frames := 0, cells := 0, slots := 0, locals := 0 } : Room) (va_Pc [.long p0, .long 0, .long 11] (fun U => xB dC dI T [] sz U)) (va_Qi (fun (r u : Int32) => r = u) (fun (u : Int32) (t : State) => (((p0.toInt < 0) ∨ ((¬ (p0.toInt < 0)) ∧ (11 < p0.toInt))) ∧ 0 = u ∧ xE dC dI [] (va_A [] sz) t) ∨ (((¬ (p0.toInt < 0)) ∧ (¬ (11 < p0.toInt))) ∧ 1 = u ∧ xE dC dI [] (va_A [] sz) t)) (va_A [] sz)) 0 0 (va_A [] sz) := by
  refine Met.ofW (cc := cX12_isBetween) (maxL := 6) (ret := (some .boolean)) (by decide +kernel) rfl ?_
  intro p e s m args below meth c s₁ B hml hv
  obtain ⟨rfl, hsz, hP, hK, hD0, hG⟩ := hv
  have hx := B.exec
  have hb := B.bytes
  have hr := B.returns
  have hts := atoms_spec (ws := wsX12_isBetween) B.pre
  have hown : s.vm.findClass RX12 = some m.cls := findClass_of_methodNamed B.named
  have hlocks := B.notSynchronized
  subst hsz
  have hD := hD0.self (sz := s.heap.size)
  generalize hAe : va_A [] s.heap.size = A at hD hG ⊢
  have hA : ∀ q : Nat, s.heap.size ≤ q → A q := fun q h => by rw [← hAe]; exact Or.inr h
  have hS : va_S A s.heap s.heap [] := va_S.rf
  have hl := lv_entry ([.long p0, .long 0, .long 11]) (n := 6) (Nat.le_of_ble_eq_true rfl)
  rw [lg_entry_eq]
  generalize (lg_sl ([.long p0, .long 0, .long 11]) ++ List.replicate (6 - (lg_sl ([.long p0, .long 0, .long 11])).length) Slot.unset).toArray = ls at hl ⊢
  have hl : lv_has ls 6 [(0, .long p0), (2, .long 0), (4, .long 11)] := hl
  refine lv_lload_n hx hb dX12_isBetween_0 rfl (lv_at hl 1 rfl) ?_
  refine lv_lload_n hx hb dX12_isBetween_1 rfl (lv_at hl 0 rfl) ?_
  refine W.lcmp hx hb dX12_isBetween_2 ?_
  refine lv_if_gt (tgt := 17) hx hb dX12_isBetween_3 (by decide) (fun c_1 => ?_) (fun c_1 => ?_)
  · have nc_1 : p0.toInt < 0 := (xl_gt rfl (by decide +kernel)).mp c_1
    refine lv_iconst (v := 0) hx hb dX12_isBetween_17 (by decide) ?_
    have hP9 := hP.sub (ws' := []) [] rfl
    have hD9 := hD.sub (ws' := []) [] (by decide) rfl
    exact W.zret (v := 0) hx hb hr (by decide) (fun t ht hW => ⟨⟨_, _, rfl, rfl, (Or.inl ⟨(Or.inl nc_1), rfl, by rw [ht]; exact hP9, hD9⟩)⟩, hS.F ht⟩) hS.2.2 dX12_isBetween_18
  · have nc_1 : ¬ (p0.toInt < 0) := mt (xl_gt rfl (by decide +kernel)).mpr c_1
    refine lv_lload_n hx hb dX12_isBetween_6 rfl (lv_at hl 0 rfl) ?_
    refine lv_lload hx hb dX12_isBetween_7 (lv_at hl 2 rfl) ?_
    refine W.lcmp hx hb dX12_isBetween_9 ?_
    refine lv_if_gt (tgt := 17) hx hb dX12_isBetween_10 (by decide) (fun c_2 => ?_) (fun c_2 => ?_)
    · have nc_2 : 11 < p0.toInt := (xl_gt (by decide +kernel) rfl).mp c_2
      refine lv_iconst (v := 0) hx hb dX12_isBetween_17 (by decide) ?_
      have hP9 := hP.sub (ws' := []) [] rfl
      have hD9 := hD.sub (ws' := []) [] (by decide) rfl
      exact W.zret (v := 0) hx hb hr (by decide) (fun t ht hW => ⟨⟨_, _, rfl, rfl, (Or.inl ⟨(Or.inr (⟨nc_1, nc_2⟩)), rfl, by rw [ht]; exact hP9, hD9⟩)⟩, hS.F ht⟩) hS.2.2 dX12_isBetween_18
    · have nc_2 : ¬ (11 < p0.toInt) := mt (xl_gt (by decide +kernel) rfl).mpr c_2
      refine lv_iconst (v := 1) hx hb dX12_isBetween_13 (by decide) ?_
      refine lv_goto (tgt := 18) hx hb dX12_isBetween_14 (by decide) ?_
      have hP9 := hP.sub (ws' := []) [] rfl
      have hD9 := hD.sub (ws' := []) [] (by decide) rfl
      exact W.zret (v := 1) hx hb hr (by decide) (fun t ht hW => ⟨⟨_, _, rfl, rfl, (Or.inr (⟨⟨nc_1, nc_2⟩, rfl, by rw [ht]; exact hP9, hD9⟩))⟩, hS.F ht⟩) hS.2.2 dX12_isBetween_18
set_option maxHeartbeats 4000000 in
set_option maxRecDepth 100000 in
theorem xcX12_isThere (l : Launch) (hst : l.stackTraces = false) (dC : Nat → ClassId) (dI : Nat → Nat → Nat) (T : Nat → ClassId) (a1 : Nat) (a2 : Nat) (a3 : Nat) (a4 : Nat) (sz : Nat) (p1 : Int32) : Met l yX12_isThere wsX12_isThere ({ frames := 1, cells := 0, slots := 0, locals := 25 } : Room) (va_Pc [.ref a1, .int p1] (fun U => xB dC dI T [(a1, .inr (17, [.int 0, .ref a2, .ref a3, .ref a4, .long 0])), (a2, .inl (T 2, 12, .inr (.inr (.inr (.inr (fun _ => none))))))] sz U)) (va_Qi (fun (r u : Int32) => r = u) (fun (u : Int32) (t : State) => 0 = u ∧ xE dC dI [(a1, .inr (17, [.int 0, .ref a2, .ref a3, .ref a4, .long 0])), (a2, .inl (T 2, 12, .inr (.inr (.inr (.inr (fun _ => none))))))] (va_A [(a1, .inr (17, [.int 0, .ref a2, .ref a3, .ref a4, .long 0])), (a2, .inl (T 2, 12, .inr (.inr (.inr (.inr (fun _ => none))))))] sz) t) (va_A [(a1, .inr (17, [.int 0, .ref a2, .ref a3, .ref a4, .long 0])), (a2, .inl (T 2, 12, .inr (.inr (.inr (.inr (fun _ => none))))))] sz)) 0 0 (va_A [(a1, .inr (17, [.int 0, .ref a2, .ref a3, .ref a4, .long 0])), (a2, .inl (T 2, 12, .inr (.inr (.inr (.inr (fun _ => none))))))] sz) := by
  refine Met.ofW (cc := cX12_isThere) (maxL := 2) (ret := (some .boolean)) (by decide +kernel) rfl ?_
  intro p e s m args below meth c s₁ B hml hv
  obtain ⟨rfl, hsz, hP, hK, hD0, hG⟩ := hv
  have hx := B.exec
  have hb := B.bytes
  have hr := B.returns
  have hts := atoms_spec (ws := wsX12_isThere) B.pre
  have hown : s.vm.findClass RX12 = some m.cls := findClass_of_methodNamed B.named
  have hlocks := B.notSynchronized
  have hin_X12 : ∀ w ∈ wsX120, w ∈ wsX12_isThere := by decide +kernel
  subst hsz
  have hD := hD0.self (sz := s.heap.size)
  generalize hAe : va_A [(a1, .inr (17, [.int 0, .ref a2, .ref a3, .ref a4, .long 0])), (a2, .inl (T 2, 12, .inr (.inr (.inr (.inr (fun _ => none))))))] s.heap.size = A at hD hG ⊢
  have hA : ∀ q : Nat, s.heap.size ≤ q → A q := fun q h => by rw [← hAe]; exact Or.inr h
  have hS : va_S A s.heap s.heap [] := va_S.rf
  have hl := lv_entry ([.ref a1, .int p1]) (n := 2) (Nat.le_of_ble_eq_true rfl)
  rw [lg_entry_eq]
  generalize (lg_sl ([.ref a1, .int p1]) ++ List.replicate (2 - (lg_sl ([.ref a1, .int p1])).length) Slot.unset).toArray = ls at hl ⊢
  have hl : lv_has ls 2 [(0, .ref a1), (1, .int p1)] := hl
  refine lv_iload_n hx hb dX12_isThere_0 rfl (lv_at hl 1 rfl) ?_
  refine lv_i2l hx hb dX12_isThere_1 rfl ?_
  refine lv_lconst (v := 0) hx hb dX12_isThere_2 (by decide) ?_
  refine lv_ldc2 (v := 11) hx hb hown (hts (.constantLong RX12 33 11) (by decide +kernel)) dX12_isThere_3 ?_
  have hPc := hP.sub (ws' := []) [] rfl
  have hDc := hD.sub (ws' := []) [] (by decide) rfl
  have hFc := va_free (wc := []) hD hS hA [] rfl
  refine va_calli (va_runS (As := [.long p1.toInt64, .long 0, .long 11]) (rest := []) ⟨hx, hb, hml, hown, hts⟩ (xcX12_isBetween_v2 l hst dC dI T s.heap.size p1.toInt64) (cwS 3 hts gX12_isThere_X12_isBetween rfl rfl rfl (by decide +kernel) ⟨Nat.le_of_ble_eq_true rfl, Nat.le_of_ble_eq_true rfl⟩) ⟨xBlind, xCall hK hG hS hPc hDc hFc⟩ rfl rfl hl.1 rfl (lv_room (Nat.le_of_ble_eq_true rfl)) dX12_isThere_6 ⟨Nat.le_of_ble_eq_true rfl, Nat.le_of_ble_eq_true rfl⟩) hS (fun q _ h => hFc q h) hFc (fun r_9 u t H locs ht hvm hw hB hz1 hk1 hS => ?_)
  subst hw
  rcases hB with ⟨c_1, hr_9, hP1, hD1⟩ | ⟨c_2, hr_9, hP1, hD1⟩
  · have hz_3 : (p1.toInt64).toInt = p1.toInt := Int32.toInt_toInt64 _
    rw [ht] at hP1
    subst hr_9
    obtain ⟨hP, hD⟩ := va_join (wr := [(a1, .inr (17, [.int 0, .ref a2, .ref a3, .ref a4, .long 0])), (a2, .inl (T 2, 12, .inr (.inr (.inr (.inr (fun _ => none))))))]) (w1 := []) hP hD [] [0, 1] rfl rfl (by decide) (by decide) hk1 hFc hP1 hD1
    have hP : va_P (dC, dI) vwCl [(a1, .inr (17, [.int 0, .ref a2, .ref a3, .ref a4, .long 0])), (a2, .inl (T 2, 12, .inr (.inr (.inr (.inr (fun _ => none))))))] H := hP
    have hD : va_D A [(a1, .inr (17, [.int 0, .ref a2, .ref a3, .ref a4, .long 0])), (a2, .inl (T 2, 12, .inr (.inr (.inr (.inr (fun _ => none))))))] := hD
    clear hPc hDc hFc hP1 hD1 hk1 hz1 ht hvm
    refine lv_if_eq (tgt := 25) hx hb dX12_isThere_9 (by decide) (fun c_4 => ?_) (fun c_4 => absurd (by decide) c_4)
    refine lv_iconst (v := 0) hx hb dX12_isThere_25 (by decide) ?_
    have hP9 := hP.sub (ws' := [(a1, .inr (17, [.int 0, .ref a2, .ref a3, .ref a4, .long 0])), (a2, .inl (T 2, 12, .inr (.inr (.inr (.inr (fun _ => none))))))]) [0, 1] rfl
    have hD9 := hD.sub (ws' := [(a1, .inr (17, [.int 0, .ref a2, .ref a3, .ref a4, .long 0])), (a2, .inl (T 2, 12, .inr (.inr (.inr (.inr (fun _ => none))))))]) [0, 1] (by decide) rfl
    exact W.zret (v := 0) hx hb hr (by decide) (fun t ht hW => ⟨⟨_, _, rfl, rfl, ⟨rfl, by rw [ht]; exact hP9, hD9⟩⟩, hS.F ht⟩) hS.2.2 dX12_isThere_26
  · have hz_5 : (p1.toInt64).toInt = p1.toInt := Int32.toInt_toInt64 _
    rw [ht] at hP1
    subst hr_9
    obtain ⟨hP, hD⟩ := va_join (wr := [(a1, .inr (17, [.int 0, .ref a2, .ref a3, .ref a4, .long 0])), (a2, .inl (T 2, 12, .inr (.inr (.inr (.inr (fun _ => none))))))]) (w1 := []) hP hD [] [0, 1] rfl rfl (by decide) (by decide) hk1 hFc hP1 hD1
    have hP : va_P (dC, dI) vwCl [(a1, .inr (17, [.int 0, .ref a2, .ref a3, .ref a4, .long 0])), (a2, .inl (T 2, 12, .inr (.inr (.inr (.inr (fun _ => none))))))] H := hP
    have hD : va_D A [(a1, .inr (17, [.int 0, .ref a2, .ref a3, .ref a4, .long 0])), (a2, .inl (T 2, 12, .inr (.inr (.inr (.inr (fun _ => none))))))] := hD
    clear hPc hDc hFc hP1 hD1 hk1 hz1 ht hvm
    refine lv_if_eq (tgt := 25) hx hb dX12_isThere_9 (by decide) (fun c_6 => absurd c_6 (by decide)) (fun c_6 => ?_)
    refine lv_aload_n hx hb dX12_isThere_12 rfl (lv_at hl 0 rfl) ?_
    refine va_get (D := (dC, dI)) (ci := 17) (v := .ref a2) (C := RX12) (T := TX12) (N := 5) hx hb hts hin_X12 hown hK hP 0 rfl rfl 1 (by decide) (hts (.fieldLink RX12 11 "NearestwardModel" "points" "[[I") (by decide +kernel)) (fun _ h9 => h9) rfl dX12_isThere_13 ?_
    refine lv_iload_n hx hb dX12_isThere_16 rfl (lv_at hl 1 rfl) ?_
    refine xAldq hx hb hK hP 1 2 rfl rfl (vp_in_iff.mpr ⟨by omega, by omega⟩) dX12_isThere_17 ?_
    refine lv_ifnullN (tgt := 25) hx hb dX12_isThere_18 (by decide) ?_
    refine lv_iconst (v := 0) hx hb dX12_isThere_25 (by decide) ?_
    have hP9 := hP.sub (ws' := [(a1, .inr (17, [.int 0, .ref a2, .ref a3, .ref a4, .long 0])), (a2, .inl (T 2, 12, .inr (.inr (.inr (.inr (fun _ => none))))))]) [0, 1] rfl
    have hD9 := hD.sub (ws' := [(a1, .inr (17, [.int 0, .ref a2, .ref a3, .ref a4, .long 0])), (a2, .inl (T 2, 12, .inr (.inr (.inr (.inr (fun _ => none))))))]) [0, 1] (by decide) rfl
    exact W.zret (v := 0) hx hb hr (by decide) (fun t ht hW => ⟨⟨_, _, rfl, rfl, ⟨rfl, by rw [ht]; exact hP9, hD9⟩⟩, hS.F ht⟩) hS.2.2 dX12_isThere_26
set_option maxHeartbeats 4000000 in
set_option maxRecDepth 100000 in
theorem xcX12_areTwo (l : Launch) (hst : l.stackTraces = false) (dC : Nat → ClassId) (dI : Nat → Nat → Nat) (T : Nat → ClassId) (a1 : Nat) (a2 : Nat) (a3 : Nat) (a4 : Nat) (sz : Nat) (p1 : Int32) (p2 : Int32) : Met l yX12_areTwo wsX12_areTwo ({ frames := 2, cells := 0, slots := 0, locals := 46 } : Room) (va_Pc [.ref a1, .int p1, .int p2] (fun U => xB dC dI T [(a1, .inr (17, [.int 0, .ref a2, .ref a3, .ref a4, .long 0])), (a2, .inl (T 2, 12, .inr (.inr (.inr (.inr (fun _ => none))))))] sz U)) (va_Qi (fun (r u : Int32) => r = u) (fun (u : Int32) (t : State) => 0 = u ∧ xE dC dI [(a1, .inr (17, [.int 1, .ref a2, .ref a3, .ref a4, .long 0])), (a2, .inl (T 2, 12, .inr (.inr (.inr (.inr (fun _ => none))))))] (va_A [(a1, .inr (17, [.int 0, .ref a2, .ref a3, .ref a4, .long 0])), (a2, .inl (T 2, 12, .inr (.inr (.inr (.inr (fun _ => none))))))] sz) t) (va_A [(a1, .inr (17, [.int 0, .ref a2, .ref a3, .ref a4, .long 0])), (a2, .inl (T 2, 12, .inr (.inr (.inr (.inr (fun _ => none))))))] sz)) 0 0 (va_A [(a1, .inr (17, [.int 0, .ref a2, .ref a3, .ref a4, .long 0])), (a2, .inl (T 2, 12, .inr (.inr (.inr (.inr (fun _ => none))))))] sz) := by
  refine Met.ofW (cc := cX12_areTwo) (maxL := 3) (ret := (some .boolean)) (by decide +kernel) rfl ?_
  intro p e s m args below meth c s₁ B hml hv
  obtain ⟨rfl, hsz, hP, hK, hD0, hG⟩ := hv
  have hx := B.exec
  have hb := B.bytes
  have hr := B.returns
  have hts := atoms_spec (ws := wsX12_areTwo) B.pre
  have hown : s.vm.findClass RX12 = some m.cls := findClass_of_methodNamed B.named
  have hlocks := B.notSynchronized
  subst hsz
  have hD := hD0.self (sz := s.heap.size)
  generalize hAe : va_A [(a1, .inr (17, [.int 0, .ref a2, .ref a3, .ref a4, .long 0])), (a2, .inl (T 2, 12, .inr (.inr (.inr (.inr (fun _ => none))))))] s.heap.size = A at hD hG ⊢
  have hA : ∀ q : Nat, s.heap.size ≤ q → A q := fun q h => by rw [← hAe]; exact Or.inr h
  have hS : va_S A s.heap s.heap [] := va_S.rf
  have hl := lv_entry ([.ref a1, .int p1, .int p2]) (n := 3) (Nat.le_of_ble_eq_true rfl)
  rw [lg_entry_eq]
  generalize (lg_sl ([.ref a1, .int p1, .int p2]) ++ List.replicate (3 - (lg_sl ([.ref a1, .int p1, .int p2])).length) Slot.unset).toArray = ls at hl ⊢
  have hl : lv_has ls 3 [(0, .ref a1), (1, .int p1), (2, .int p2)] := hl
  refine lv_aload_n hx hb dX12_areTwo_0 rfl (lv_at hl 0 rfl) ?_
  refine lv_aload_n hx hb dX12_areTwo_1 rfl (lv_at hl 0 rfl) ?_
  refine lv_iload_n hx hb dX12_areTwo_2 rfl (lv_at hl 1 rfl) ?_
  have hPc := hP.sub (ws' := [(a1, .inr (17, [.int 0, .ref a2, .ref a3, .ref a4, .long 0])), (a2, .inl (T 2, 12, .inr (.inr (.inr (.inr (fun _ => none))))))]) [0, 1] rfl
  have hDc := hD.sub (ws' := [(a1, .inr (17, [.int 0, .ref a2, .ref a3, .ref a4, .long 0])), (a2, .inl (T 2, 12, .inr (.inr (.inr (.inr (fun _ => none))))))]) [0, 1] (by decide) rfl
  have hFc := va_free (wc := [(a1, .inr (17, [.int 0, .ref a2, .ref a3, .ref a4, .long 0])), (a2, .inl (T 2, 12, .inr (.inr (.inr (.inr (fun _ => none))))))]) hD hS hA [0, 1] rfl
  refine va_calli (va_runV (As := [.int p1]) (rest := [.ref a1]) ⟨hx, hb, hml, hown, hts⟩ (xcX12_isThere l hst dC dI T a1 a2 a3 a4 s.heap.size p1) (cwV 1 hts gX12_areTwo_X12_isThere rfl rfl rfl (by decide +kernel) ⟨Nat.le_of_ble_eq_true rfl, Nat.le_of_ble_eq_true rfl⟩) ⟨xBlind, va_recv hK hPc (ci := 17) (q0 := 0) rfl rfl, xCall hK hG hS hPc hDc hFc⟩ rfl rfl hl.1 rfl (lv_room (Nat.le_of_ble_eq_true rfl)) dX12_areTwo_3 ⟨Nat.le_of_ble_eq_true rfl, Nat.le_of_ble_eq_true rfl⟩) hS (fun q _ h => hFc q h) hFc (fun r_9 u t H locs ht hvm hw hB hz1 hk1 hS => ?_)
  subst hw
  rcases hB with ⟨hr_9, hP1, hD1⟩
  rw [ht] at hP1
  subst hr_9
  obtain ⟨hP, hD⟩ := va_join (wr := []) (w1 := [(a1, .inr (17, [.int 0, .ref a2, .ref a3, .ref a4, .long 0])), (a2, .inl (T 2, 12, .inr (.inr (.inr (.inr (fun _ => none))))))]) hP hD [0, 1] [] rfl rfl (by decide) (by decide) hk1 hFc hP1 hD1
  have hP : va_P (dC, dI) vwCl [(a1, .inr (17, [.int 0, .ref a2, .ref a3, .ref a4, .long 0])), (a2, .inl (T 2, 12, .inr (.inr (.inr (.inr (fun _ => none))))))] H := hP
  have hD : va_D A [(a1, .inr (17, [.int 0, .ref a2, .ref a3, .ref a4, .long 0])), (a2, .inl (T 2, 12, .inr (.inr (.inr (.inr (fun _ => none))))))] := hD
  clear hPc hDc hFc hP1 hD1 hk1 hz1 ht hvm
  refine lv_if_eq (tgt := 21) hx hb dX12_areTwo_6 (by decide) (fun c_2 => ?_) (fun c_2 => absurd (by decide) c_2)
  refine lv_iconst (v := 1) hx hb dX12_areTwo_21 (by decide) ?_
  have hPc := hP.sub (ws' := [(a1, .inr (17, [.int 0, .ref a2, .ref a3, .ref a4, .long 0]))]) [0] rfl
  have hDc := hD.sub (ws' := [(a1, .inr (17, [.int 0, .ref a2, .ref a3, .ref a4, .long 0]))]) [0] (by decide) rfl
  have hFc := va_free (wc := [(a1, .inr (17, [.int 0, .ref a2, .ref a3, .ref a4, .long 0]))]) hD hS hA [0] rfl
  refine va_calli (va_runV (As := [.int 1]) (rest := []) ⟨hx, hb, hml, hown, hts⟩ (xcX12_isWrong l hst dC dI T a1 a2 a3 a4 H.size) (cwV 1 hts gX12_areTwo_X12_isWrong rfl rfl rfl (by decide +kernel) ⟨Nat.le_of_ble_eq_true rfl, Nat.le_of_ble_eq_true rfl⟩) ⟨xBlind, va_recv hK hPc (ci := 17) (q0 := 0) rfl rfl, xCall hK hG hS hPc hDc hFc⟩ rfl rfl hl.1 rfl (lv_room (Nat.le_of_ble_eq_true rfl)) dX12_areTwo_22 ⟨Nat.le_of_ble_eq_true rfl, Nat.le_of_ble_eq_true rfl⟩) hS (fun q _ h => hFc q h) hFc (fun r_9 u t H locs ht hvm hw hB hz1 hk1 hS => ?_)
  subst hw
  rcases hB with ⟨hr_9, hP1, hD1⟩
  rw [ht] at hP1
  subst hr_9
  obtain ⟨hP, hD⟩ := va_join (wr := [(a2, .inl (T 2, 12, .inr (.inr (.inr (.inr (fun _ => none))))))]) (w1 := [(a1, .inr (17, [.int 1, .ref a2, .ref a3, .ref a4, .long 0]))]) hP hD [0] [1] rfl rfl (by decide) (by decide) hk1 hFc hP1 hD1
  have hP := hP.sub (ws' := [(a1, .inr (17, [.int 1, .ref a2, .ref a3, .ref a4, .long 0])), (a2, .inl (T 2, 12, .inr (.inr (.inr (.inr (fun _ => none))))))]) [1, 0] rfl
  have hD := hD.sub (ws' := [(a1, .inr (17, [.int 1, .ref a2, .ref a3, .ref a4, .long 0])), (a2, .inl (T 2, 12, .inr (.inr (.inr (.inr (fun _ => none))))))]) [1, 0] (by decide) rfl
  clear hPc hDc hFc hP1 hD1 hk1 hz1 ht hvm
  refine lv_if_ne (tgt := 32) hx hb dX12_areTwo_25 (by decide) (fun c_4 => ?_) (fun c_4 => absurd c_4 (by decide))
  refine lv_iconst (v := 0) hx hb dX12_areTwo_32 (by decide) ?_
  have hP9 := hP.sub (ws' := [(a1, .inr (17, [.int 1, .ref a2, .ref a3, .ref a4, .long 0])), (a2, .inl (T 2, 12, .inr (.inr (.inr (.inr (fun _ => none))))))]) [0, 1] rfl
  have hD9 := hD.sub (ws' := [(a1, .inr (17, [.int 1, .ref a2, .ref a3, .ref a4, .long 0])), (a2, .inl (T 2, 12, .inr (.inr (.inr (.inr (fun _ => none))))))]) [0, 1] (by decide) rfl
  exact W.zret (v := 0) hx hb hr (by decide) (fun t ht hW => ⟨⟨_, _, rfl, rfl, ⟨rfl, by rw [ht]; exact hP9, hD9⟩⟩, hS.F ht⟩) hS.2.2 dX12_areTwo_33
set_option maxHeartbeats 4000000 in
set_option maxRecDepth 100000 in
theorem xcX12_areNeighbours (l : Launch) (hst : l.stackTraces = false) (dC : Nat → ClassId) (dI : Nat → Nat → Nat) (T : Nat → ClassId) (a1 : Nat) (a2 : Nat) (a3 : Nat) (a4 : Nat) (sz : Nat) (p1 : Int32) (p2 : Int32) : Met l yX12_areNeighbours wsX12_areNeighbours ({ frames := 3, cells := 0, slots := 0, locals := 68 } : Room) (va_Pc [.ref a1, .int p1, .int p2] (fun U => xB dC dI T [(a1, .inr (17, [.int 0, .ref a2, .ref a3, .ref a4, .long 0])), (a2, .inl (T 2, 12, .inr (.inr (.inr (.inr (fun _ => none))))))] sz U)) (va_Qi (fun (r u : Int32) => r = u) (fun (u : Int32) (t : State) => 0 = u ∧ xE dC dI [(a1, .inr (17, [.int 1, .ref a2, .ref a3, .ref a4, .long 0]))] (va_A [(a1, .inr (17, [.int 0, .ref a2, .ref a3, .ref a4, .long 0])), (a2, .inl (T 2, 12, .inr (.inr (.inr (.inr (fun _ => none))))))] sz) t) (va_A [(a1, .inr (17, [.int 0, .ref a2, .ref a3, .ref a4, .long 0])), (a2, .inl (T 2, 12, .inr (.inr (.inr (.inr (fun _ => none))))))] sz)) 0 0 (va_A [(a1, .inr (17, [.int 0, .ref a2, .ref a3, .ref a4, .long 0])), (a2, .inl (T 2, 12, .inr (.inr (.inr (.inr (fun _ => none))))))] sz) := by
  refine Met.ofW (cc := cX12_areNeighbours) (maxL := 3) (ret := (some .boolean)) (by decide +kernel) rfl ?_
  intro p e s m args below meth c s₁ B hml hv
  obtain ⟨rfl, hsz, hP, hK, hD0, hG⟩ := hv
  have hx := B.exec
  have hb := B.bytes
  have hr := B.returns
  have hts := atoms_spec (ws := wsX12_areNeighbours) B.pre
  have hown : s.vm.findClass RX12 = some m.cls := findClass_of_methodNamed B.named
  have hlocks := B.notSynchronized
  subst hsz
  have hD := hD0.self (sz := s.heap.size)
  generalize hAe : va_A [(a1, .inr (17, [.int 0, .ref a2, .ref a3, .ref a4, .long 0])), (a2, .inl (T 2, 12, .inr (.inr (.inr (.inr (fun _ => none))))))] s.heap.size = A at hD hG ⊢
  have hA : ∀ q : Nat, s.heap.size ≤ q → A q := fun q h => by rw [← hAe]; exact Or.inr h
  have hS : va_S A s.heap s.heap [] := va_S.rf
  have hl := lv_entry ([.ref a1, .int p1, .int p2]) (n := 3) (Nat.le_of_ble_eq_true rfl)
  rw [lg_entry_eq]
  generalize (lg_sl ([.ref a1, .int p1, .int p2]) ++ List.replicate (3 - (lg_sl ([.ref a1, .int p1, .int p2])).length) Slot.unset).toArray = ls at hl ⊢
  have hl : lv_has ls 3 [(0, .ref a1), (1, .int p1), (2, .int p2)] := hl
  refine lv_aload_n hx hb dX12_areNeighbours_0 rfl (lv_at hl 0 rfl) ?_
  refine lv_iload_n hx hb dX12_areNeighbours_1 rfl (lv_at hl 1 rfl) ?_
  refine lv_iload_n hx hb dX12_areNeighbours_2 rfl (lv_at hl 2 rfl) ?_
  have hPc := hP.sub (ws' := [(a1, .inr (17, [.int 0, .ref a2, .ref a3, .ref a4, .long 0])), (a2, .inl (T 2, 12, .inr (.inr (.inr (.inr (fun _ => none))))))]) [0, 1] rfl
  have hDc := hD.sub (ws' := [(a1, .inr (17, [.int 0, .ref a2, .ref a3, .ref a4, .long 0])), (a2, .inl (T 2, 12, .inr (.inr (.inr (.inr (fun _ => none))))))]) [0, 1] (by decide) rfl
  have hFc := va_free (wc := [(a1, .inr (17, [.int 0, .ref a2, .ref a3, .ref a4, .long 0])), (a2, .inl (T 2, 12, .inr (.inr (.inr (.inr (fun _ => none))))))]) hD hS hA [0, 1] rfl
  refine va_calli (va_runV (As := [.int p1, .int p2]) (rest := []) ⟨hx, hb, hml, hown, hts⟩ (xcX12_areTwo l hst dC dI T a1 a2 a3 a4 s.heap.size p1 p2) (cwV 2 hts gX12_areNeighbours_X12_areTwo rfl rfl rfl (by decide +kernel) ⟨Nat.le_of_ble_eq_true rfl, Nat.le_of_ble_eq_true rfl⟩) ⟨xBlind, va_recv hK hPc (ci := 17) (q0 := 0) rfl rfl, xCall hK hG hS hPc hDc hFc⟩ rfl rfl hl.1 rfl (lv_room (Nat.le_of_ble_eq_true rfl)) dX12_areNeighbours_3 ⟨Nat.le_of_ble_eq_true rfl, Nat.le_of_ble_eq_true rfl⟩) hS (fun q _ h => hFc q h) hFc (fun r_9 u t H locs ht hvm hw hB hz1 hk1 hS => ?_)
  subst hw
  rcases hB with ⟨hr_9, hP1, hD1⟩
  rw [ht] at hP1
  subst hr_9
  obtain ⟨hP, hD⟩ := va_join (wr := []) (w1 := [(a1, .inr (17, [.int 1, .ref a2, .ref a3, .ref a4, .long 0])), (a2, .inl (T 2, 12, .inr (.inr (.inr (.inr (fun _ => none))))))]) hP hD [0, 1] [] rfl rfl (by decide) (by decide) hk1 hFc hP1 hD1
  have hP : va_P (dC, dI) vwCl [(a1, .inr (17, [.int 1, .ref a2, .ref a3, .ref a4, .long 0])), (a2, .inl (T 2, 12, .inr (.inr (.inr (.inr (fun _ => none))))))] H := hP
  have hD : va_D A [(a1, .inr (17, [.int 1, .ref a2, .ref a3, .ref a4, .long 0])), (a2, .inl (T 2, 12, .inr (.inr (.inr (.inr (fun _ => none))))))] := hD
  clear hPc hDc hFc hP1 hD1 hk1 hz1 ht hvm
  refine lv_if_eq (tgt := 22) hx hb dX12_areNeighbours_6 (by decide) (fun c_2 => ?_) (fun c_2 => absurd (by decide) c_2)
  refine lv_iconst (v := 0) hx hb dX12_areNeighbours_22 (by decide) ?_
  have hP9 := hP.sub (ws' := [(a1, .inr (17, [.int 1, .ref a2, .ref a3, .ref a4, .long 0]))]) [0] rfl
  have hD9 := hD.sub (ws' := [(a1, .inr (17, [.int 1, .ref a2, .ref a3, .ref a4, .long 0]))]) [0] (by decide) rfl
  exact W.zret (v := 0) hx hb hr (by decide) (fun t ht hW => ⟨⟨_, _, rfl, rfl, ⟨rfl, by rw [ht]; exact hP9, hD9⟩⟩, hS.F ht⟩) hS.2.2 dX12_areNeighbours_23
set_option maxHeartbeats 4000000 in
set_option maxRecDepth 100000 in
theorem xcX12_isNoPoint (l : Launch) (hst : l.stackTraces = false) (dC : Nat → ClassId) (dI : Nat → Nat → Nat) (T : Nat → ClassId) (a1 : Nat) (a2 : Nat) (a3 : Nat) (a4 : Nat) (sz : Nat) (p1 : Int32) : Met l yX12_isNoPoint wsX12_isNoPoint ({ frames := 2, cells := 0, slots := 0, locals := 46 } : Room) (va_Pc [.ref a1, .int p1] (fun U => xB dC dI T [(a1, .inr (17, [.int 0, .ref a2, .ref a3, .ref a4, .long 0])), (a2, .inl (T 2, 12, .inr (.inr (.inr (.inr (fun _ => none))))))] sz U)) (va_Qi (fun (r u : Int32) => r = u) (fun (u : Int32) (t : State) => 1 = u ∧ xE dC dI [(a1, .inr (17, [.int 1, .ref a2, .ref a3, .ref a4, .long 0])), (a2, .inl (T 2, 12, .inr (.inr (.inr (.inr (fun _ => none))))))] (va_A [(a1, .inr (17, [.int 0, .ref a2, .ref a3, .ref a4, .long 0])), (a2, .inl (T 2, 12, .inr (.inr (.inr (.inr (fun _ => none))))))] sz) t) (va_A [(a1, .inr (17, [.int 0, .ref a2, .ref a3, .ref a4, .long 0])), (a2, .inl (T 2, 12, .inr (.inr (.inr (.inr (fun _ => none))))))] sz)) 0 0 (va_A [(a1, .inr (17, [.int 0, .ref a2, .ref a3, .ref a4, .long 0])), (a2, .inl (T 2, 12, .inr (.inr (.inr (.inr (fun _ => none))))))] sz) := by
  refine Met.ofW (cc := cX12_isNoPoint) (maxL := 2) (ret := (some .boolean)) (by decide +kernel) rfl ?_
  intro p e s m args below meth c s₁ B hml hv
  obtain ⟨rfl, hsz, hP, hK, hD0, hG⟩ := hv
  have hx := B.exec
  have hb := B.bytes
  have hr := B.returns
  have hts := atoms_spec (ws := wsX12_isNoPoint) B.pre
  have hown : s.vm.findClass RX12 = some m.cls := findClass_of_methodNamed B.named
  have hlocks := B.notSynchronized
  subst hsz
  have hD := hD0.self (sz := s.heap.size)
  generalize hAe : va_A [(a1, .inr (17, [.int 0, .ref a2, .ref a3, .ref a4, .long 0])), (a2, .inl (T 2, 12, .inr (.inr (.inr (.inr (fun _ => none))))))] s.heap.size = A at hD hG ⊢
  have hA : ∀ q : Nat, s.heap.size ≤ q → A q := fun q h => by rw [← hAe]; exact Or.inr h
  have hS : va_S A s.heap s.heap [] := va_S.rf
  have hl := lv_entry ([.ref a1, .int p1]) (n := 2) (Nat.le_of_ble_eq_true rfl)
  rw [lg_entry_eq]
  generalize (lg_sl ([.ref a1, .int p1]) ++ List.replicate (2 - (lg_sl ([.ref a1, .int p1])).length) Slot.unset).toArray = ls at hl ⊢
  have hl : lv_has ls 2 [(0, .ref a1), (1, .int p1)] := hl
  refine lv_aload_n hx hb dX12_isNoPoint_0 rfl (lv_at hl 0 rfl) ?_
  refine lv_aload_n hx hb dX12_isNoPoint_1 rfl (lv_at hl 0 rfl) ?_
  refine lv_iload_n hx hb dX12_isNoPoint_2 rfl (lv_at hl 1 rfl) ?_
  have hPc := hP.sub (ws' := [(a1, .inr (17, [.int 0, .ref a2, .ref a3, .ref a4, .long 0])), (a2, .inl (T 2, 12, .inr (.inr (.inr (.inr (fun _ => none))))))]) [0, 1] rfl
  have hDc := hD.sub (ws' := [(a1, .inr (17, [.int 0, .ref a2, .ref a3, .ref a4, .long 0])), (a2, .inl (T 2, 12, .inr (.inr (.inr (.inr (fun _ => none))))))]) [0, 1] (by decide) rfl
  have hFc := va_free (wc := [(a1, .inr (17, [.int 0, .ref a2, .ref a3, .ref a4, .long 0])), (a2, .inl (T 2, 12, .inr (.inr (.inr (.inr (fun _ => none))))))]) hD hS hA [0, 1] rfl
  refine va_calli (va_runV (As := [.int p1]) (rest := [.ref a1]) ⟨hx, hb, hml, hown, hts⟩ (xcX12_isThere l hst dC dI T a1 a2 a3 a4 s.heap.size p1) (cwV 1 hts gX12_isNoPoint_X12_isThere rfl rfl rfl (by decide +kernel) ⟨Nat.le_of_ble_eq_true rfl, Nat.le_of_ble_eq_true rfl⟩) ⟨xBlind, va_recv hK hPc (ci := 17) (q0 := 0) rfl rfl, xCall hK hG hS hPc hDc hFc⟩ rfl rfl hl.1 rfl (lv_room (Nat.le_of_ble_eq_true rfl)) dX12_isNoPoint_3 ⟨Nat.le_of_ble_eq_true rfl, Nat.le_of_ble_eq_true rfl⟩) hS (fun q _ h => hFc q h) hFc (fun r_9 u t H locs ht hvm hw hB hz1 hk1 hS => ?_)
  subst hw
  rcases hB with ⟨hr_9, hP1, hD1⟩
  rw [ht] at hP1
  subst hr_9
  obtain ⟨hP, hD⟩ := va_join (wr := []) (w1 := [(a1, .inr (17, [.int 0, .ref a2, .ref a3, .ref a4, .long 0])), (a2, .inl (T 2, 12, .inr (.inr (.inr (.inr (fun _ => none))))))]) hP hD [0, 1] [] rfl rfl (by decide) (by decide) hk1 hFc hP1 hD1
  have hP : va_P (dC, dI) vwCl [(a1, .inr (17, [.int 0, .ref a2, .ref a3, .ref a4, .long 0])), (a2, .inl (T 2, 12, .inr (.inr (.inr (.inr (fun _ => none))))))] H := hP
  have hD : va_D A [(a1, .inr (17, [.int 0, .ref a2, .ref a3, .ref a4, .long 0])), (a2, .inl (T 2, 12, .inr (.inr (.inr (.inr (fun _ => none))))))] := hD
  clear hPc hDc hFc hP1 hD1 hk1 hz1 ht hvm
  refine lv_if_eq (tgt := 13) hx hb dX12_isNoPoint_6 (by decide) (fun c_2 => ?_) (fun c_2 => absurd (by decide) c_2)
  refine lv_iconst (v := 1) hx hb dX12_isNoPoint_13 (by decide) ?_
  have hPc := hP.sub (ws' := [(a1, .inr (17, [.int 0, .ref a2, .ref a3, .ref a4, .long 0]))]) [0] rfl
  have hDc := hD.sub (ws' := [(a1, .inr (17, [.int 0, .ref a2, .ref a3, .ref a4, .long 0]))]) [0] (by decide) rfl
  have hFc := va_free (wc := [(a1, .inr (17, [.int 0, .ref a2, .ref a3, .ref a4, .long 0]))]) hD hS hA [0] rfl
  refine va_calli (va_runV (As := [.int 1]) (rest := []) ⟨hx, hb, hml, hown, hts⟩ (xcX12_isWrong l hst dC dI T a1 a2 a3 a4 H.size) (cwV 1 hts gX12_isNoPoint_X12_isWrong rfl rfl rfl (by decide +kernel) ⟨Nat.le_of_ble_eq_true rfl, Nat.le_of_ble_eq_true rfl⟩) ⟨xBlind, va_recv hK hPc (ci := 17) (q0 := 0) rfl rfl, xCall hK hG hS hPc hDc hFc⟩ rfl rfl hl.1 rfl (lv_room (Nat.le_of_ble_eq_true rfl)) dX12_isNoPoint_14 ⟨Nat.le_of_ble_eq_true rfl, Nat.le_of_ble_eq_true rfl⟩) hS (fun q _ h => hFc q h) hFc (fun r_9 u t H locs ht hvm hw hB hz1 hk1 hS => ?_)
  subst hw
  rcases hB with ⟨hr_9, hP1, hD1⟩
  rw [ht] at hP1
  subst hr_9
  obtain ⟨hP, hD⟩ := va_join (wr := [(a2, .inl (T 2, 12, .inr (.inr (.inr (.inr (fun _ => none))))))]) (w1 := [(a1, .inr (17, [.int 1, .ref a2, .ref a3, .ref a4, .long 0]))]) hP hD [0] [1] rfl rfl (by decide) (by decide) hk1 hFc hP1 hD1
  have hP := hP.sub (ws' := [(a1, .inr (17, [.int 1, .ref a2, .ref a3, .ref a4, .long 0])), (a2, .inl (T 2, 12, .inr (.inr (.inr (.inr (fun _ => none))))))]) [1, 0] rfl
  have hD := hD.sub (ws' := [(a1, .inr (17, [.int 1, .ref a2, .ref a3, .ref a4, .long 0])), (a2, .inl (T 2, 12, .inr (.inr (.inr (.inr (fun _ => none))))))]) [1, 0] (by decide) rfl
  clear hPc hDc hFc hP1 hD1 hk1 hz1 ht hvm
  have hP9 := hP.sub (ws' := [(a1, .inr (17, [.int 1, .ref a2, .ref a3, .ref a4, .long 0])), (a2, .inl (T 2, 12, .inr (.inr (.inr (.inr (fun _ => none))))))]) [0, 1] rfl
  have hD9 := hD.sub (ws' := [(a1, .inr (17, [.int 1, .ref a2, .ref a3, .ref a4, .long 0])), (a2, .inl (T 2, 12, .inr (.inr (.inr (.inr (fun _ => none))))))]) [0, 1] (by decide) rfl
  exact W.zret (v := 1) hx hb hr (by decide) (fun t ht hW => ⟨⟨_, _, rfl, rfl, ⟨rfl, by rw [ht]; exact hP9, hD9⟩⟩, hS.F ht⟩) hS.2.2 dX12_isNoPoint_17
set_option maxHeartbeats 4000000 in
set_option maxRecDepth 100000 in
theorem xcX12_cell (l : Launch) (hst : l.stackTraces = false) (dC : Nat → ClassId) (dI : Nat → Nat → Nat) (T : Nat → ClassId) (a1 : Nat) (a2 : Nat) (a3 : Nat) (a4 : Nat) (sz : Nat) (p1 : Int32) (p2 : Int32) : Met l yX12_cell wsX12_cell ({ frames := 3, cells := 0, slots := 0, locals := 67 } : Room) (va_Pc [.ref a1, .int p1, .int p2] (fun U => xB dC dI T [(a1, .inr (17, [.int 0, .ref a2, .ref a3, .ref a4, .long 0])), (a2, .inl (T 2, 12, .inr (.inr (.inr (.inr (fun _ => none))))))] sz U)) (va_Qi (fun (r u : Int32) => r = u) (fun (u : Int32) (t : State) => 0 = u ∧ xE dC dI [(a1, .inr (17, [.int 1, .ref a2, .ref a3, .ref a4, .long 0]))] (va_A [(a1, .inr (17, [.int 0, .ref a2, .ref a3, .ref a4, .long 0])), (a2, .inl (T 2, 12, .inr (.inr (.inr (.inr (fun _ => none))))))] sz) t) (va_A [(a1, .inr (17, [.int 0, .ref a2, .ref a3, .ref a4, .long 0])), (a2, .inl (T 2, 12, .inr (.inr (.inr (.inr (fun _ => none))))))] sz)) 0 0 (va_A [(a1, .inr (17, [.int 0, .ref a2, .ref a3, .ref a4, .long 0])), (a2, .inl (T 2, 12, .inr (.inr (.inr (.inr (fun _ => none))))))] sz) := by
  refine Met.ofW (cc := cX12_cell) (maxL := 12) (ret := (some .int)) (by decide +kernel) rfl ?_
  intro p e s m args below meth c s₁ B hml hv
  obtain ⟨rfl, hsz, hP, hK, hD0, hG⟩ := hv
  have hx := B.exec
  have hb := B.bytes
  have hr := B.returns
  have hts := atoms_spec (ws := wsX12_cell) B.pre
  have hown : s.vm.findClass RX12 = some m.cls := findClass_of_methodNamed B.named
  have hlocks := B.notSynchronized
  subst hsz
  have hD := hD0.self (sz := s.heap.size)
  generalize hAe : va_A [(a1, .inr (17, [.int 0, .ref a2, .ref a3, .ref a4, .long 0])), (a2, .inl (T 2, 12, .inr (.inr (.inr (.inr (fun _ => none))))))] s.heap.size = A at hD hG ⊢
  have hA : ∀ q : Nat, s.heap.size ≤ q → A q := fun q h => by rw [← hAe]; exact Or.inr h
  have hS : va_S A s.heap s.heap [] := va_S.rf
  have hl := lv_entry ([.ref a1, .int p1, .int p2]) (n := 12) (Nat.le_of_ble_eq_true rfl)
  rw [lg_entry_eq]
  generalize (lg_sl ([.ref a1, .int p1, .int p2]) ++ List.replicate (12 - (lg_sl ([.ref a1, .int p1, .int p2])).length) Slot.unset).toArray = ls at hl ⊢
  have hl : lv_has ls 12 [(0, .ref a1), (1, .int p1), (2, .int p2)] := hl
  refine lv_aload_n hx hb dX12_cell_0 rfl (lv_at hl 0 rfl) ?_
  refine lv_iload_n hx hb dX12_cell_1 rfl (lv_at hl 2 rfl) ?_
  have hPc := hP.sub (ws' := [(a1, .inr (17, [.int 0, .ref a2, .ref a3, .ref a4, .long 0])), (a2, .inl (T 2, 12, .inr (.inr (.inr (.inr (fun _ => none))))))]) [0, 1] rfl
  have hDc := hD.sub (ws' := [(a1, .inr (17, [.int 0, .ref a2, .ref a3, .ref a4, .long 0])), (a2, .inl (T 2, 12, .inr (.inr (.inr (.inr (fun _ => none))))))]) [0, 1] (by decide) rfl
  have hFc := va_free (wc := [(a1, .inr (17, [.int 0, .ref a2, .ref a3, .ref a4, .long 0])), (a2, .inl (T 2, 12, .inr (.inr (.inr (.inr (fun _ => none))))))]) hD hS hA [0, 1] rfl
  refine va_calli (va_runV (As := [.int p2]) (rest := []) ⟨hx, hb, hml, hown, hts⟩ (xcX12_isNoPoint l hst dC dI T a1 a2 a3 a4 s.heap.size p2) (cwV 1 hts gX12_cell_X12_isNoPoint rfl rfl rfl (by decide +kernel) ⟨Nat.le_of_ble_eq_true rfl, Nat.le_of_ble_eq_true rfl⟩) ⟨xBlind, va_recv hK hPc (ci := 17) (q0 := 0) rfl rfl, xCall hK hG hS hPc hDc hFc⟩ rfl rfl hl.1 rfl (lv_room (Nat.le_of_ble_eq_true rfl)) dX12_cell_2 ⟨Nat.le_of_ble_eq_true rfl, Nat.le_of_ble_eq_true rfl⟩) hS (fun q _ h => hFc q h) hFc (fun r_9 u t H locs ht hvm hw hB hz1 hk1 hS => ?_)
  subst hw
  rcases hB with ⟨hr_9, hP1, hD1⟩
  rw [ht] at hP1
  subst hr_9
  obtain ⟨hP, hD⟩ := va_join (wr := []) (w1 := [(a1, .inr (17, [.int 1, .ref a2, .ref a3, .ref a4, .long 0])), (a2, .inl (T 2, 12, .inr (.inr (.inr (.inr (fun _ => none))))))]) hP hD [0, 1] [] rfl rfl (by decide) (by decide) hk1 hFc hP1 hD1
  have hP : va_P (dC, dI) vwCl [(a1, .inr (17, [.int 1, .ref a2, .ref a3, .ref a4, .long 0])), (a2, .inl (T 2, 12, .inr (.inr (.inr (.inr (fun _ => none))))))] H := hP
  have hD : va_D A [(a1, .inr (17, [.int 1, .ref a2, .ref a3, .ref a4, .long 0])), (a2, .inl (T 2, 12, .inr (.inr (.inr (.inr (fun _ => none))))))] := hD
  clear hPc hDc hFc hP1 hD1 hk1 hz1 ht hvm
  refine lv_if_ne (tgt := 27) hx hb dX12_cell_5 (by decide) (fun c_2 => ?_) (fun c_2 => absurd c_2 (by decide))
  refine lv_iconst (v := 0) hx hb dX12_cell_27 (by decide) ?_
  have hP9 := hP.sub (ws' := [(a1, .inr (17, [.int 1, .ref a2, .ref a3, .ref a4, .long 0]))]) [0] rfl
  have hD9 := hD.sub (ws' := [(a1, .inr (17, [.int 1, .ref a2, .ref a3, .ref a4, .long 0]))]) [0] (by decide) rfl
  exact W.iret (v := 0) hx hb hr (fun t ht hW => ⟨⟨_, _, rfl, rfl, ⟨rfl, by rw [ht]; exact hP9, hD9⟩⟩, hS.F ht⟩) hS.2.2 dX12_cell_28
set_option maxHeartbeats 4000000 in
set_option maxRecDepth 100000 in
theorem xcX12_isBetween_v3 (l : Launch) (hst : l.stackTraces = false) (dC : Nat → ClassId) (dI : Nat → Nat → Nat) (T : Nat → ClassId) (sz : Nat) (p0 : Int64) : Met l yX12_isBetween wsX12_isBetween ({ frames := 0, cells := 0, slots := 0, locals := 0 } : Room) (va_Pc [.long p0, .long 1, .long 4] (fun U => xB dC dI T [] sz U)) (va_Qi (fun (r u : Int32) => r = u) (fun (u : Int32) (t : State) => (((p0.toInt < 1) ∨ ((¬ (p0.toInt < 1)) ∧ (4 < p0.toInt))) ∧ 0 = u ∧ xE dC dI [] (va_A [] sz) t) ∨ (((¬ (p0.toInt < 1)) ∧ (¬ (4 < p0.toInt))) ∧ 1 = u ∧ xE dC dI [] (va_A [] sz) t)) (va_A [] sz)) 0 0 (va_A [] sz) := by
  refine Met.ofW (cc := cX12_isBetween) (maxL := 6) (ret := (some .boolean)) (by decide +kernel) rfl ?_
  intro p e s m args below meth c s₁ B hml hv
  obtain ⟨rfl, hsz, hP, hK, hD0, hG⟩ := hv
  have hx := B.exec
  have hb := B.bytes
  have hr := B.returns
  have hts := atoms_spec (ws := wsX12_isBetween) B.pre
  have hown : s.vm.findClass RX12 = some m.cls := findClass_of_methodNamed B.named
  have hlocks := B.notSynchronized
  subst hsz
  have hD := hD0.self (sz := s.heap.size)
  generalize hAe : va_A [] s.heap.size = A at hD hG ⊢
  have hA : ∀ q : Nat, s.heap.size ≤ q → A q := fun q h => by rw [← hAe]; exact Or.inr h
  have hS : va_S A s.heap s.heap [] := va_S.rf
  have hl := lv_entry ([.long p0, .long 1, .long 4]) (n := 6) (Nat.le_of_ble_eq_true rfl)
  rw [lg_entry_eq]
  generalize (lg_sl ([.long p0, .long 1, .long 4]) ++ List.replicate (6 - (lg_sl ([.long p0, .long 1, .long 4])).length) Slot.unset).toArray = ls at hl ⊢
  have hl : lv_has ls 6 [(0, .long p0), (2, .long 1), (4, .long 4)] := hl
  refine lv_lload_n hx hb dX12_isBetween_0 rfl (lv_at hl 1 rfl) ?_
  refine lv_lload_n hx hb dX12_isBetween_1 rfl (lv_at hl 0 rfl) ?_
  refine W.lcmp hx hb dX12_isBetween_2 ?_
  refine lv_if_gt (tgt := 17) hx hb dX12_isBetween_3 (by decide) (fun c_1 => ?_) (fun c_1 => ?_)
  · have nc_1 : p0.toInt < 1 := (xl_gt rfl (by decide +kernel)).mp c_1
    refine lv_iconst (v := 0) hx hb dX12_isBetween_17 (by decide) ?_
    have hP9 := hP.sub (ws' := []) [] rfl
    have hD9 := hD.sub (ws' := []) [] (by decide) rfl
    exact W.zret (v := 0) hx hb hr (by decide) (fun t ht hW => ⟨⟨_, _, rfl, rfl, (Or.inl ⟨(Or.inl nc_1), rfl, by rw [ht]; exact hP9, hD9⟩)⟩, hS.F ht⟩) hS.2.2 dX12_isBetween_18
  · have nc_1 : ¬ (p0.toInt < 1) := mt (xl_gt rfl (by decide +kernel)).mpr c_1
    refine lv_lload_n hx hb dX12_isBetween_6 rfl (lv_at hl 0 rfl) ?_
    refine lv_lload hx hb dX12_isBetween_7 (lv_at hl 2 rfl) ?_
    refine W.lcmp hx hb dX12_isBetween_9 ?_
    refine lv_if_gt (tgt := 17) hx hb dX12_isBetween_10 (by decide) (fun c_2 => ?_) (fun c_2 => ?_)
    · have nc_2 : 4 < p0.toInt := (xl_gt (by decide +kernel) rfl).mp c_2
      refine lv_iconst (v := 0) hx hb dX12_isBetween_17 (by decide) ?_
      have hP9 := hP.sub (ws' := []) [] rfl
      have hD9 := hD.sub (ws' := []) [] (by decide) rfl
      exact W.zret (v := 0) hx hb hr (by decide) (fun t ht hW => ⟨⟨_, _, rfl, rfl, (Or.inl ⟨(Or.inr (⟨nc_1, nc_2⟩)), rfl, by rw [ht]; exact hP9, hD9⟩)⟩, hS.F ht⟩) hS.2.2 dX12_isBetween_18
    · have nc_2 : ¬ (4 < p0.toInt) := mt (xl_gt (by decide +kernel) rfl).mpr c_2
      refine lv_iconst (v := 1) hx hb dX12_isBetween_13 (by decide) ?_
      refine lv_goto (tgt := 18) hx hb dX12_isBetween_14 (by decide) ?_
      have hP9 := hP.sub (ws' := []) [] rfl
      have hD9 := hD.sub (ws' := []) [] (by decide) rfl
      exact W.zret (v := 1) hx hb hr (by decide) (fun t ht hW => ⟨⟨_, _, rfl, rfl, (Or.inr (⟨⟨nc_1, nc_2⟩, rfl, by rw [ht]; exact hP9, hD9⟩))⟩, hS.F ht⟩) hS.2.2 dX12_isBetween_18
set_option maxHeartbeats 4000000 in
set_option maxRecDepth 100000 in
theorem xcX12_isBetween_v4 (l : Launch) (hst : l.stackTraces = false) (dC : Nat → ClassId) (dI : Nat → Nat → Nat) (T : Nat → ClassId) (sz : Nat) (p0 : Int64) (p2 : Int64) : Met l yX12_isBetween wsX12_isBetween ({ frames := 0, cells := 0, slots := 0, locals := 0 } : Room) (va_Pc [.long p0, .long 0, .long p2] (fun U => xB dC dI T [] sz U)) (va_Qi (fun (r u : Int32) => r = u) (fun (u : Int32) (t : State) => (((p0.toInt < 0) ∨ ((¬ (p0.toInt < 0)) ∧ (p2.toInt < p0.toInt))) ∧ 0 = u ∧ xE dC dI [] (va_A [] sz) t) ∨ (((¬ (p0.toInt < 0)) ∧ (¬ (p2.toInt < p0.toInt))) ∧ 1 = u ∧ xE dC dI [] (va_A [] sz) t)) (va_A [] sz)) 0 0 (va_A [] sz) := by
  refine Met.ofW (cc := cX12_isBetween) (maxL := 6) (ret := (some .boolean)) (by decide +kernel) rfl ?_
  intro p e s m args below meth c s₁ B hml hv
  obtain ⟨rfl, hsz, hP, hK, hD0, hG⟩ := hv
  have hx := B.exec
  have hb := B.bytes
  have hr := B.returns
  have hts := atoms_spec (ws := wsX12_isBetween) B.pre
  have hown : s.vm.findClass RX12 = some m.cls := findClass_of_methodNamed B.named
  have hlocks := B.notSynchronized
  subst hsz
  have hD := hD0.self (sz := s.heap.size)
  generalize hAe : va_A [] s.heap.size = A at hD hG ⊢
  have hA : ∀ q : Nat, s.heap.size ≤ q → A q := fun q h => by rw [← hAe]; exact Or.inr h
  have hS : va_S A s.heap s.heap [] := va_S.rf
  have hl := lv_entry ([.long p0, .long 0, .long p2]) (n := 6) (Nat.le_of_ble_eq_true rfl)
  rw [lg_entry_eq]
  generalize (lg_sl ([.long p0, .long 0, .long p2]) ++ List.replicate (6 - (lg_sl ([.long p0, .long 0, .long p2])).length) Slot.unset).toArray = ls at hl ⊢
  have hl : lv_has ls 6 [(0, .long p0), (2, .long 0), (4, .long p2)] := hl
  refine lv_lload_n hx hb dX12_isBetween_0 rfl (lv_at hl 1 rfl) ?_
  refine lv_lload_n hx hb dX12_isBetween_1 rfl (lv_at hl 0 rfl) ?_
  refine W.lcmp hx hb dX12_isBetween_2 ?_
  refine lv_if_gt (tgt := 17) hx hb dX12_isBetween_3 (by decide) (fun c_1 => ?_) (fun c_1 => ?_)
  · have nc_1 : p0.toInt < 0 := (xl_gt rfl (by decide +kernel)).mp c_1
    refine lv_iconst (v := 0) hx hb dX12_isBetween_17 (by decide) ?_
    have hP9 := hP.sub (ws' := []) [] rfl
    have hD9 := hD.sub (ws' := []) [] (by decide) rfl
    exact W.zret (v := 0) hx hb hr (by decide) (fun t ht hW => ⟨⟨_, _, rfl, rfl, (Or.inl ⟨(Or.inl nc_1), rfl, by rw [ht]; exact hP9, hD9⟩)⟩, hS.F ht⟩) hS.2.2 dX12_isBetween_18
  · have nc_1 : ¬ (p0.toInt < 0) := mt (xl_gt rfl (by decide +kernel)).mpr c_1
    refine lv_lload_n hx hb dX12_isBetween_6 rfl (lv_at hl 0 rfl) ?_
    refine lv_lload hx hb dX12_isBetween_7 (lv_at hl 2 rfl) ?_
    refine W.lcmp hx hb dX12_isBetween_9 ?_
    refine lv_if_gt (tgt := 17) hx hb dX12_isBetween_10 (by decide) (fun c_2 => ?_) (fun c_2 => ?_)
    · have nc_2 : p2.toInt < p0.toInt := (xl_gt rfl rfl).mp c_2
      refine lv_iconst (v := 0) hx hb dX12_isBetween_17 (by decide) ?_
      have hP9 := hP.sub (ws' := []) [] rfl
      have hD9 := hD.sub (ws' := []) [] (by decide) rfl
      exact W.zret (v := 0) hx hb hr (by decide) (fun t ht hW => ⟨⟨_, _, rfl, rfl, (Or.inl ⟨(Or.inr (⟨nc_1, nc_2⟩)), rfl, by rw [ht]; exact hP9, hD9⟩)⟩, hS.F ht⟩) hS.2.2 dX12_isBetween_18
    · have nc_2 : ¬ (p2.toInt < p0.toInt) := mt (xl_gt rfl rfl).mpr c_2
      refine lv_iconst (v := 1) hx hb dX12_isBetween_13 (by decide) ?_
      refine lv_goto (tgt := 18) hx hb dX12_isBetween_14 (by decide) ?_
      have hP9 := hP.sub (ws' := []) [] rfl
      have hD9 := hD.sub (ws' := []) [] (by decide) rfl
      exact W.zret (v := 1) hx hb hr (by decide) (fun t ht hW => ⟨⟨_, _, rfl, rfl, (Or.inr (⟨⟨nc_1, nc_2⟩, rfl, by rw [ht]; exact hP9, hD9⟩))⟩, hS.F ht⟩) hS.2.2 dX12_isBetween_18
set_option maxHeartbeats 4000000 in
set_option maxRecDepth 100000 in
theorem xcX12_isWrong_v3 (l : Launch) (hst : l.stackTraces = false) (dC : Nat → ClassId) (dI : Nat → Nat → Nat) (T : Nat → ClassId) (a1 : Nat) (a2 : Nat) (a3 : Nat) (a4 : Nat) (sz : Nat) : Met l yX12_isWrong wsX12_isWrong ({ frames := 0, cells := 0, slots := 0, locals := 0 } : Room) (va_Pc [.ref a1, .int 2] (fun U => xB dC dI T [(a1, .inr (17, [.int 0, .ref a2, .ref a3, .ref a4, .long 0]))] sz U)) (va_Qi (fun (r u : Int32) => r = u) (fun (u : Int32) (t : State) => 1 = u ∧ xE dC dI [(a1, .inr (17, [.int 2, .ref a2, .ref a3, .ref a4, .long 0]))] (va_A [(a1, .inr (17, [.int 0, .ref a2, .ref a3, .ref a4, .long 0]))] sz) t) (va_A [(a1, .inr (17, [.int 0, .ref a2, .ref a3, .ref a4, .long 0]))] sz)) 0 0 (va_A [(a1, .inr (17, [.int 0, .ref a2, .ref a3, .ref a4, .long 0]))] sz) := by
  refine Met.ofW (cc := cX12_isWrong) (maxL := 2) (ret := (some .boolean)) (by decide +kernel) rfl ?_
  intro p e s m args below meth c s₁ B hml hv
  obtain ⟨rfl, hsz, hP, hK, hD0, hG⟩ := hv
  have hx := B.exec
  have hb := B.bytes
  have hr := B.returns
  have hts := atoms_spec (ws := wsX12_isWrong) B.pre
  have hown : s.vm.findClass RX12 = some m.cls := findClass_of_methodNamed B.named
  have hlocks := B.notSynchronized
  have hin_X12 : ∀ w ∈ wsX120, w ∈ wsX12_isWrong := by decide +kernel
  subst hsz
  have hD := hD0.self (sz := s.heap.size)
  generalize hAe : va_A [(a1, .inr (17, [.int 0, .ref a2, .ref a3, .ref a4, .long 0]))] s.heap.size = A at hD hG ⊢
  have hA : ∀ q : Nat, s.heap.size ≤ q → A q := fun q h => by rw [← hAe]; exact Or.inr h
  have hS : va_S A s.heap s.heap [] := va_S.rf
  have hl := lv_entry ([.ref a1, .int 2]) (n := 2) (Nat.le_of_ble_eq_true rfl)
  rw [lg_entry_eq]
  generalize (lg_sl ([.ref a1, .int 2]) ++ List.replicate (2 - (lg_sl ([.ref a1, .int 2])).length) Slot.unset).toArray = ls at hl ⊢
  have hl : lv_has ls 2 [(0, .ref a1), (1, .int 2)] := hl
  refine lv_aload_n hx hb dX12_isWrong_0 rfl (lv_at hl 0 rfl) ?_
  refine lv_iload_n hx hb dX12_isWrong_1 rfl (lv_at hl 1 rfl) ?_
  refine va_put (D := (dC, dI)) (ci := 17) (v := .int 2) (ty := .int) (C := RX12) (T := TX12) (N := 5) hx hb hts hin_X12 tyX12 tyX12_ok nmX12 hown hK hP hD hS 0 rfl rfl 0 (by decide) (hts (.fieldLink RX12 25 "NearestwardModel" "thrown" "I") (by decide +kernel)) (fun _ h9 => h9) rfl (by decide +kernel) rfl rfl (Nat.le_of_ble_eq_true rfl) dX12_isWrong_2 (fun H locs hP hD hS => ?_)
  have hP : va_P (dC, dI) vwCl [(a1, .inr (17, [.int 2, .ref a2, .ref a3, .ref a4, .long 0]))] H := hP
  have hD : va_D A [(a1, .inr (17, [.int 2, .ref a2, .ref a3, .ref a4, .long 0]))] := hD
  refine lv_iload_n hx hb dX12_isWrong_5 rfl (lv_at hl 1 rfl) ?_
  refine lv_if_le (tgt := 13) hx hb dX12_isWrong_6 (by decide) (fun c_1 => absurd c_1 (by decide)) (fun c_1 => ?_)
  refine lv_iconst (v := 1) hx hb dX12_isWrong_9 (by decide) ?_
  refine lv_goto (tgt := 14) hx hb dX12_isWrong_10 (by decide) ?_
  have hP9 := hP.sub (ws' := [(a1, .inr (17, [.int 2, .ref a2, .ref a3, .ref a4, .long 0]))]) [0] rfl
  have hD9 := hD.sub (ws' := [(a1, .inr (17, [.int 2, .ref a2, .ref a3, .ref a4, .long 0]))]) [0] (by decide) rfl
  exact W.zret (v := 1) hx hb hr (by decide) (fun t ht hW => ⟨⟨_, _, rfl, rfl, ⟨rfl, by rw [ht]; exact hP9, hD9⟩⟩, hS.F ht⟩) hS.2.2 dX12_isWrong_14
set_option maxHeartbeats 4000000 in
set_option maxRecDepth 100000 in
theorem xcX12_centre (l : Launch) (hst : l.stackTraces = false) (dC : Nat → ClassId) (dI : Nat → Nat → Nat) (T : Nat → ClassId) (a1 : Nat) (a2 : Nat) (a3 : Nat) (a4 : Nat) (sz : Nat) (p1 : Int32) (p2 : Int32) : Met l yX12_centre wsX12_centre ({ frames := 1, cells := 0, slots := 0, locals := 25 } : Room) (va_Pc [.ref a1, .int p1, .int p2] (fun U => xB dC dI T [(a1, .inr (17, [.int 0, .ref a2, .ref a3, .ref a4, .long 0])), (a2, .inl (T 2, 12, .inr (.inr (.inr (.inr (fun _ => none))))))] sz U)) (va_Qi (fun (r u : Int32) => r = u) (fun (u : Int32) (t : State) => (((((p1.toInt64).toInt < 1) ∨ ((¬ ((p1.toInt64).toInt < 1)) ∧ (4 < (p1.toInt64).toInt))) ∨ (((¬ ((p1.toInt64).toInt < 1)) ∧ (¬ (4 < (p1.toInt64).toInt))) ∧ (((p2.toInt64).toInt < 0) ∨ ((¬ ((p2.toInt64).toInt < 0)) ∧ (((p1 - 1).toInt64).toInt < (p2.toInt64).toInt))))) ∧ 0 = u ∧ xE dC dI [(a1, .inr (17, [.int 1, .ref a2, .ref a3, .ref a4, .long 0]))] (va_A [(a1, .inr (17, [.int 0, .ref a2, .ref a3, .ref a4, .long 0])), (a2, .inl (T 2, 12, .inr (.inr (.inr (.inr (fun _ => none))))))] sz) t) ∨ ((((¬ ((p1.toInt64).toInt < 1)) ∧ (¬ (4 < (p1.toInt64).toInt))) ∧ ((¬ ((p2.toInt64).toInt < 0)) ∧ (¬ (((p1 - 1).toInt64).toInt < (p2.toInt64).toInt)))) ∧ 0 = u ∧ xE dC dI [(a1, .inr (17, [.int 2, .ref a2, .ref a3, .ref a4, .long 0]))] (va_A [(a1, .inr (17, [.int 0, .ref a2, .ref a3, .ref a4, .long 0])), (a2, .inl (T 2, 12, .inr (.inr (.inr (.inr (fun _ => none))))))] sz) t)) (va_A [(a1, .inr (17, [.int 0, .ref a2, .ref a3, .ref a4, .long 0])), (a2, .inl (T 2, 12, .inr (.inr (.inr (.inr (fun _ => none))))))] sz)) 0 0 (va_A [(a1, .inr (17, [.int 0, .ref a2, .ref a3, .ref a4, .long 0])), (a2, .inl (T 2, 12, .inr (.inr (.inr (.inr (fun _ => none))))))] sz) := by
  refine Met.ofW (cc := cX12_centre) (maxL := 5) (ret := (some .int)) (by decide +kernel) rfl ?_
  intro p e s m args below meth c s₁ B hml hv
  obtain ⟨rfl, hsz, hP, hK, hD0, hG⟩ := hv
  have hx := B.exec
  have hb := B.bytes
  have hr := B.returns
  have hts := atoms_spec (ws := wsX12_centre) B.pre
  have hown : s.vm.findClass RX12 = some m.cls := findClass_of_methodNamed B.named
  have hlocks := B.notSynchronized
  subst hsz
  have hD := hD0.self (sz := s.heap.size)
  generalize hAe : va_A [(a1, .inr (17, [.int 0, .ref a2, .ref a3, .ref a4, .long 0])), (a2, .inl (T 2, 12, .inr (.inr (.inr (.inr (fun _ => none))))))] s.heap.size = A at hD hG ⊢
  have hA : ∀ q : Nat, s.heap.size ≤ q → A q := fun q h => by rw [← hAe]; exact Or.inr h
  have hS : va_S A s.heap s.heap [] := va_S.rf
  have hl := lv_entry ([.ref a1, .int p1, .int p2]) (n := 5) (Nat.le_of_ble_eq_true rfl)
  rw [lg_entry_eq]
  generalize (lg_sl ([.ref a1, .int p1, .int p2]) ++ List.replicate (5 - (lg_sl ([.ref a1, .int p1, .int p2])).length) Slot.unset).toArray = ls at hl ⊢
  have hl : lv_has ls 5 [(0, .ref a1), (1, .int p1), (2, .int p2)] := hl
  refine lv_aload_n hx hb dX12_centre_0 rfl (lv_at hl 0 rfl) ?_
  refine lv_iload_n hx hb dX12_centre_1 rfl (lv_at hl 1 rfl) ?_
  refine lv_i2l hx hb dX12_centre_2 rfl ?_
  refine lv_lconst (v := 1) hx hb dX12_centre_3 (by decide) ?_
  refine lv_ldc2 (v := 4) hx hb hown (hts (.constantLong RX12 212 4) (by decide +kernel)) dX12_centre_4 ?_
  have hPc := hP.sub (ws' := []) [] rfl
  have hDc := hD.sub (ws' := []) [] (by decide) rfl
  have hFc := va_free (wc := []) hD hS hA [] rfl
  refine va_calli (va_runS (As := [.long p1.toInt64, .long 1, .long 4]) (rest := [.ref a1]) ⟨hx, hb, hml, hown, hts⟩ (xcX12_isBetween_v3 l hst dC dI T s.heap.size p1.toInt64) (cwS 3 hts gX12_centre_X12_isBetween rfl rfl rfl (by decide +kernel) ⟨Nat.le_of_ble_eq_true rfl, Nat.le_of_ble_eq_true rfl⟩) ⟨xBlind, xCall hK hG hS hPc hDc hFc⟩ rfl rfl hl.1 rfl (lv_room (Nat.le_of_ble_eq_true rfl)) dX12_centre_7 ⟨Nat.le_of_ble_eq_true rfl, Nat.le_of_ble_eq_true rfl⟩) hS (fun q _ h => hFc q h) hFc (fun r_9 u t H locs ht hvm hw hB hz1 hk1 hS => ?_)
  subst hw
  rcases hB with ⟨c_1, hr_9, hP1, hD1⟩ | ⟨c_2, hr_9, hP1, hD1⟩
  · have hz_3 : (p1.toInt64).toInt = p1.toInt := Int32.toInt_toInt64 _
    rw [ht] at hP1
    subst hr_9
    obtain ⟨hP, hD⟩ := va_join (wr := [(a1, .inr (17, [.int 0, .ref a2, .ref a3, .ref a4, .long 0])), (a2, .inl (T 2, 12, .inr (.inr (.inr (.inr (fun _ => none))))))]) (w1 := []) hP hD [] [0, 1] rfl rfl (by decide) (by decide) hk1 hFc hP1 hD1
    have hP : va_P (dC, dI) vwCl [(a1, .inr (17, [.int 0, .ref a2, .ref a3, .ref a4, .long 0])), (a2, .inl (T 2, 12, .inr (.inr (.inr (.inr (fun _ => none))))))] H := hP
    have hD : va_D A [(a1, .inr (17, [.int 0, .ref a2, .ref a3, .ref a4, .long 0])), (a2, .inl (T 2, 12, .inr (.inr (.inr (.inr (fun _ => none))))))] := hD
    clear hPc hDc hFc hP1 hD1 hk1 hz1 ht hvm
    refine lv_if_eq (tgt := 26) hx hb dX12_centre_10 (by decide) (fun c_4 => ?_) (fun c_4 => absurd (by decide) c_4)
    refine lv_iconst (v := 1) hx hb dX12_centre_26 (by decide) ?_
    refine lv_goto (tgt := 43) hx hb dX12_centre_27 (by decide) ?_
    have hPc := hP.sub (ws' := [(a1, .inr (17, [.int 0, .ref a2, .ref a3, .ref a4, .long 0]))]) [0] rfl
    have hDc := hD.sub (ws' := [(a1, .inr (17, [.int 0, .ref a2, .ref a3, .ref a4, .long 0]))]) [0] (by decide) rfl
    have hFc := va_free (wc := [(a1, .inr (17, [.int 0, .ref a2, .ref a3, .ref a4, .long 0]))]) hD hS hA [0] rfl
    refine va_calli (va_runV (As := [.int 1]) (rest := []) ⟨hx, hb, hml, hown, hts⟩ (xcX12_isWrong l hst dC dI T a1 a2 a3 a4 H.size) (cwV 1 hts gX12_centre_X12_isWrong rfl rfl rfl (by decide +kernel) ⟨Nat.le_of_ble_eq_true rfl, Nat.le_of_ble_eq_true rfl⟩) ⟨xBlind, va_recv hK hPc (ci := 17) (q0 := 0) rfl rfl, xCall hK hG hS hPc hDc hFc⟩ rfl rfl hl.1 rfl (lv_room (Nat.le_of_ble_eq_true rfl)) dX12_centre_43 ⟨Nat.le_of_ble_eq_true rfl, Nat.le_of_ble_eq_true rfl⟩) hS (fun q _ h => hFc q h) hFc (fun r_9 u t H locs ht hvm hw hB hz1 hk1 hS => ?_)
    subst hw
    rcases hB with ⟨hr_9, hP1, hD1⟩
    rw [ht] at hP1
    subst hr_9
    obtain ⟨hP, hD⟩ := va_join (wr := [(a2, .inl (T 2, 12, .inr (.inr (.inr (.inr (fun _ => none))))))]) (w1 := [(a1, .inr (17, [.int 1, .ref a2, .ref a3, .ref a4, .long 0]))]) hP hD [0] [1] rfl rfl (by decide) (by decide) hk1 hFc hP1 hD1
    have hP := hP.sub (ws' := [(a1, .inr (17, [.int 1, .ref a2, .ref a3, .ref a4, .long 0])), (a2, .inl (T 2, 12, .inr (.inr (.inr (.inr (fun _ => none))))))]) [1, 0] rfl
    have hD := hD.sub (ws' := [(a1, .inr (17, [.int 1, .ref a2, .ref a3, .ref a4, .long 0])), (a2, .inl (T 2, 12, .inr (.inr (.inr (.inr (fun _ => none))))))]) [1, 0] (by decide) rfl
    clear hPc hDc hFc hP1 hD1 hk1 hz1 ht hvm
    refine lv_if_eq (tgt := 51) hx hb dX12_centre_46 (by decide) (fun c_6 => absurd c_6 (by decide)) (fun c_6 => ?_)
    refine lv_iconst (v := 0) hx hb dX12_centre_49 (by decide) ?_
    have hP9 := hP.sub (ws' := [(a1, .inr (17, [.int 1, .ref a2, .ref a3, .ref a4, .long 0]))]) [0] rfl
    have hD9 := hD.sub (ws' := [(a1, .inr (17, [.int 1, .ref a2, .ref a3, .ref a4, .long 0]))]) [0] (by decide) rfl
    exact W.iret (v := 0) hx hb hr (fun t ht hW => ⟨⟨_, _, rfl, rfl, (Or.inl ⟨(Or.inl c_1), rfl, by rw [ht]; exact hP9, hD9⟩)⟩, hS.F ht⟩) hS.2.2 dX12_centre_50
  · have hz_7 : (p1.toInt64).toInt = p1.toInt := Int32.toInt_toInt64 _
    rw [ht] at hP1
    subst hr_9
    obtain ⟨hP, hD⟩ := va_join (wr := [(a1, .inr (17, [.int 0, .ref a2, .ref a3, .ref a4, .long 0])), (a2, .inl (T 2, 12, .inr (.inr (.inr (.inr (fun _ => none))))))]) (w1 := []) hP hD [] [0, 1] rfl rfl (by decide) (by decide) hk1 hFc hP1 hD1
    have hP : va_P (dC, dI) vwCl [(a1, .inr (17, [.int 0, .ref a2, .ref a3, .ref a4, .long 0])), (a2, .inl (T 2, 12, .inr (.inr (.inr (.inr (fun _ => none))))))] H := hP
    have hD : va_D A [(a1, .inr (17, [.int 0, .ref a2, .ref a3, .ref a4, .long 0])), (a2, .inl (T 2, 12, .inr (.inr (.inr (.inr (fun _ => none))))))] := hD
    clear hPc hDc hFc hP1 hD1 hk1 hz1 ht hvm
    refine lv_if_eq (tgt := 26) hx hb dX12_centre_10 (by decide) (fun c_8 => absurd c_8 (by decide)) (fun c_8 => ?_)
    refine lv_iload_n hx hb dX12_centre_13 rfl (lv_at hl 2 rfl) ?_
    refine lv_i2l hx hb dX12_centre_14 rfl ?_
    refine lv_lconst (v := 0) hx hb dX12_centre_15 (by decide) ?_
    refine lv_iload_n hx hb dX12_centre_16 rfl (lv_at hl 1 rfl) ?_
    refine lv_iconst (v := 1) hx hb dX12_centre_17 (by decide) ?_
    refine lv_isub hx hb dX12_centre_18 ?_
    refine lv_i2l hx hb dX12_centre_19 rfl ?_
    have hPc := hP.sub (ws' := []) [] rfl
    have hDc := hD.sub (ws' := []) [] (by decide) rfl
    have hFc := va_free (wc := []) hD hS hA [] rfl
    refine va_calli (va_runS (As := [.long p2.toInt64, .long 0, .long (p1 - 1).toInt64]) (rest := [.ref a1]) ⟨hx, hb, hml, hown, hts⟩ (xcX12_isBetween_v4 l hst dC dI T H.size p2.toInt64 ((p1 - 1).toInt64)) (cwS 3 hts gX12_centre_X12_isBetween rfl rfl rfl (by decide +kernel) ⟨Nat.le_of_ble_eq_true rfl, Nat.le_of_ble_eq_true rfl⟩) ⟨xBlind, xCall hK hG hS hPc hDc hFc⟩ rfl rfl hl.1 rfl (lv_room (Nat.le_of_ble_eq_true rfl)) dX12_centre_20 ⟨Nat.le_of_ble_eq_true rfl, Nat.le_of_ble_eq_true rfl⟩) hS (fun q _ h => hFc q h) hFc (fun r_9 u t H locs ht hvm hw hB hz1 hk1 hS => ?_)
    subst hw
    rcases hB with ⟨c_9, hr_9, hP1, hD1⟩ | ⟨c_10, hr_9, hP1, hD1⟩
    · have hz_11 : (p2.toInt64).toInt = p2.toInt := Int32.toInt_toInt64 _
      have hz_12 : ((p1 - 1).toInt64).toInt = (p1 - 1).toInt := Int32.toInt_toInt64 _
      have hz_13 : -2147483648 + 1 ≤ p1.toInt → (p1 - 1).toInt = p1.toInt - 1 := xsubi (by decide +kernel) (by decide)
      rw [ht] at hP1
      subst hr_9
      obtain ⟨hP, hD⟩ := va_join (wr := [(a1, .inr (17, [.int 0, .ref a2, .ref a3, .ref a4, .long 0])), (a2, .inl (T 2, 12, .inr (.inr (.inr (.inr (fun _ => none))))))]) (w1 := []) hP hD [] [0, 1] rfl rfl (by decide) (by decide) hk1 hFc hP1 hD1
      have hP : va_P (dC, dI) vwCl [(a1, .inr (17, [.int 0, .ref a2, .ref a3, .ref a4, .long 0])), (a2, .inl (T 2, 12, .inr (.inr (.inr (.inr (fun _ => none))))))] H := hP
      have hD : va_D A [(a1, .inr (17, [.int 0, .ref a2, .ref a3, .ref a4, .long 0])), (a2, .inl (T 2, 12, .inr (.inr (.inr (.inr (fun _ => none))))))] := hD
      clear hPc hDc hFc hP1 hD1 hk1 hz1 ht hvm
      refine lv_if_ne (tgt := 30) hx hb dX12_centre_23 (by decide) (fun c_14 => absurd c_14 (by decide)) (fun c_14 => ?_)
      refine lv_iconst (v := 1) hx hb dX12_centre_26 (by decide) ?_
      refine lv_goto (tgt := 43) hx hb dX12_centre_27 (by decide) ?_
      have hPc := hP.sub (ws' := [(a1, .inr (17, [.int 0, .ref a2, .ref a3, .ref a4, .long 0]))]) [0] rfl
      have hDc := hD.sub (ws' := [(a1, .inr (17, [.int 0, .ref a2, .ref a3, .ref a4, .long 0]))]) [0] (by decide) rfl
      have hFc := va_free (wc := [(a1, .inr (17, [.int 0, .ref a2, .ref a3, .ref a4, .long 0]))]) hD hS hA [0] rfl
      refine va_calli (va_runV (As := [.int 1]) (rest := []) ⟨hx, hb, hml, hown, hts⟩ (xcX12_isWrong l hst dC dI T a1 a2 a3 a4 H.size) (cwV 1 hts gX12_centre_X12_isWrong rfl rfl rfl (by decide +kernel) ⟨Nat.le_of_ble_eq_true rfl, Nat.le_of_ble_eq_true rfl⟩) ⟨xBlind, va_recv hK hPc (ci := 17) (q0 := 0) rfl rfl, xCall hK hG hS hPc hDc hFc⟩ rfl rfl hl.1 rfl (lv_room (Nat.le_of_ble_eq_true rfl)) dX12_centre_43 ⟨Nat.le_of_ble_eq_true rfl, Nat.le_of_ble_eq_true rfl⟩) hS (fun q _ h => hFc q h) hFc (fun r_9 u t H locs ht hvm hw hB hz1 hk1 hS => ?_)
      subst hw
      rcases hB with ⟨hr_9, hP1, hD1⟩
      rw [ht] at hP1
      subst hr_9
      obtain ⟨hP, hD⟩ := va_join (wr := [(a2, .inl (T 2, 12, .inr (.inr (.inr (.inr (fun _ => none))))))]) (w1 := [(a1, .inr (17, [.int 1, .ref a2, .ref a3, .ref a4, .long 0]))]) hP hD [0] [1] rfl rfl (by decide) (by decide) hk1 hFc hP1 hD1
      have hP := hP.sub (ws' := [(a1, .inr (17, [.int 1, .ref a2, .ref a3, .ref a4, .long 0])), (a2, .inl (T 2, 12, .inr (.inr (.inr (.inr (fun _ => none))))))]) [1, 0] rfl
      have hD := hD.sub (ws' := [(a1, .inr (17, [.int 1, .ref a2, .ref a3, .ref a4, .long 0])), (a2, .inl (T 2, 12, .inr (.inr (.inr (.inr (fun _ => none))))))]) [1, 0] (by decide) rfl
      clear hPc hDc hFc hP1 hD1 hk1 hz1 ht hvm
      refine lv_if_eq (tgt := 51) hx hb dX12_centre_46 (by decide) (fun c_16 => absurd c_16 (by decide)) (fun c_16 => ?_)
      refine lv_iconst (v := 0) hx hb dX12_centre_49 (by decide) ?_
      have hP9 := hP.sub (ws' := [(a1, .inr (17, [.int 1, .ref a2, .ref a3, .ref a4, .long 0]))]) [0] rfl
      have hD9 := hD.sub (ws' := [(a1, .inr (17, [.int 1, .ref a2, .ref a3, .ref a4, .long 0]))]) [0] (by decide) rfl
      exact W.iret (v := 0) hx hb hr (fun t ht hW => ⟨⟨_, _, rfl, rfl, (Or.inl ⟨(Or.inr (⟨c_2, c_9⟩)), rfl, by rw [ht]; exact hP9, hD9⟩)⟩, hS.F ht⟩) hS.2.2 dX12_centre_50
    · have hz_17 : (p2.toInt64).toInt = p2.toInt := Int32.toInt_toInt64 _
      have hz_18 : ((p1 - 1).toInt64).toInt = (p1 - 1).toInt := Int32.toInt_toInt64 _
      have hz_19 : -2147483648 + 1 ≤ p1.toInt → (p1 - 1).toInt = p1.toInt - 1 := xsubi (by decide +kernel) (by decide)
      rw [ht] at hP1
      subst hr_9
      obtain ⟨hP, hD⟩ := va_join (wr := [(a1, .inr (17, [.int 0, .ref a2, .ref a3, .ref a4, .long 0])), (a2, .inl (T 2, 12, .inr (.inr (.inr (.inr (fun _ => none))))))]) (w1 := []) hP hD [] [0, 1] rfl rfl (by decide) (by decide) hk1 hFc hP1 hD1
      have hP : va_P (dC, dI) vwCl [(a1, .inr (17, [.int 0, .ref a2, .ref a3, .ref a4, .long 0])), (a2, .inl (T 2, 12, .inr (.inr (.inr (.inr (fun _ => none))))))] H := hP
      have hD : va_D A [(a1, .inr (17, [.int 0, .ref a2, .ref a3, .ref a4, .long 0])), (a2, .inl (T 2, 12, .inr (.inr (.inr (.inr (fun _ => none))))))] := hD
      clear hPc hDc hFc hP1 hD1 hk1 hz1 ht hvm
      refine lv_if_ne (tgt := 30) hx hb dX12_centre_23 (by decide) (fun c_20 => ?_) (fun c_20 => absurd c_20 (by decide))
      refine lv_aload_n hx hb dX12_centre_30 rfl (lv_at hl 0 rfl) ?_
      have hPc := hP.sub (ws' := [(a1, .inr (17, [.int 0, .ref a2, .ref a3, .ref a4, .long 0])), (a2, .inl (T 2, 12, .inr (.inr (.inr (.inr (fun _ => none))))))]) [0, 1] rfl
      have hDc := hD.sub (ws' := [(a1, .inr (17, [.int 0, .ref a2, .ref a3, .ref a4, .long 0])), (a2, .inl (T 2, 12, .inr (.inr (.inr (.inr (fun _ => none))))))]) [0, 1] (by decide) rfl
      have hFc := va_free (wc := [(a1, .inr (17, [.int 0, .ref a2, .ref a3, .ref a4, .long 0])), (a2, .inl (T 2, 12, .inr (.inr (.inr (.inr (fun _ => none))))))]) hD hS hA [0, 1] rfl
      refine va_calli (va_runV (As := []) (rest := [.ref a1]) ⟨hx, hb, hml, hown, hts⟩ (xcX12_many l hst dC dI T a1 a2 a3 a4 H.size) (cwV 0 hts gX12_centre_X12_many rfl rfl rfl (by decide +kernel) ⟨Nat.le_of_ble_eq_true rfl, Nat.le_of_ble_eq_true rfl⟩) ⟨xBlind, va_recv hK hPc (ci := 17) (q0 := 0) rfl rfl, xCall hK hG hS hPc hDc hFc⟩ rfl rfl hl.1 rfl (lv_room (Nat.le_of_ble_eq_true rfl)) dX12_centre_31 ⟨Nat.le_of_ble_eq_true rfl, Nat.le_of_ble_eq_true rfl⟩) hS (fun q _ h => hFc q h) hFc (fun r_9 u t H locs ht hvm hw hB hz1 hk1 hS => ?_)
      subst hw
      rcases hB with ⟨hr_9, hP1, hD1⟩
      rw [ht] at hP1
      subst hr_9
      obtain ⟨hP, hD⟩ := va_join (wr := []) (w1 := [(a1, .inr (17, [.int 0, .ref a2, .ref a3, .ref a4, .long 0])), (a2, .inl (T 2, 12, .inr (.inr (.inr (.inr (fun _ => none))))))]) hP hD [0, 1] [] rfl rfl (by decide) (by decide) hk1 hFc hP1 hD1
      have hP : va_P (dC, dI) vwCl [(a1, .inr (17, [.int 0, .ref a2, .ref a3, .ref a4, .long 0])), (a2, .inl (T 2, 12, .inr (.inr (.inr (.inr (fun _ => none))))))] H := hP
      have hD : va_D A [(a1, .inr (17, [.int 0, .ref a2, .ref a3, .ref a4, .long 0])), (a2, .inl (T 2, 12, .inr (.inr (.inr (.inr (fun _ => none))))))] := hD
      clear hPc hDc hFc hP1 hD1 hk1 hz1 ht hvm
      refine lv_iload_n hx hb dX12_centre_34 rfl (lv_at hl 1 rfl) ?_
      refine lv_icmp_ge (tgt := 42) hx hb dX12_centre_35 (by decide) (fun c_22 => absurd (show p1.toInt ≤ 0 from (xi_le rfl (by decide +kernel)).mp c_22) (by omega)) (fun _ => ?_)
      refine lv_iconst (v := 2) hx hb dX12_centre_38 (by decide) ?_
      refine lv_goto (tgt := 43) hx hb dX12_centre_39 (by decide) ?_
      have hPc := hP.sub (ws' := [(a1, .inr (17, [.int 0, .ref a2, .ref a3, .ref a4, .long 0]))]) [0] rfl
      have hDc := hD.sub (ws' := [(a1, .inr (17, [.int 0, .ref a2, .ref a3, .ref a4, .long 0]))]) [0] (by decide) rfl
      have hFc := va_free (wc := [(a1, .inr (17, [.int 0, .ref a2, .ref a3, .ref a4, .long 0]))]) hD hS hA [0] rfl
      refine va_calli (va_runV (As := [.int 2]) (rest := []) ⟨hx, hb, hml, hown, hts⟩ (xcX12_isWrong_v3 l hst dC dI T a1 a2 a3 a4 H.size) (cwV 1 hts gX12_centre_X12_isWrong rfl rfl rfl (by decide +kernel) ⟨Nat.le_of_ble_eq_true rfl, Nat.le_of_ble_eq_true rfl⟩) ⟨xBlind, va_recv hK hPc (ci := 17) (q0 := 0) rfl rfl, xCall hK hG hS hPc hDc hFc⟩ rfl rfl hl.1 rfl (lv_room (Nat.le_of_ble_eq_true rfl)) dX12_centre_43 ⟨Nat.le_of_ble_eq_true rfl, Nat.le_of_ble_eq_true rfl⟩) hS (fun q _ h => hFc q h) hFc (fun r_9 u t H locs ht hvm hw hB hz1 hk1 hS => ?_)
      subst hw
      rcases hB with ⟨hr_9, hP1, hD1⟩
      rw [ht] at hP1
      subst hr_9
      obtain ⟨hP, hD⟩ := va_join (wr := [(a2, .inl (T 2, 12, .inr (.inr (.inr (.inr (fun _ => none))))))]) (w1 := [(a1, .inr (17, [.int 2, .ref a2, .ref a3, .ref a4, .long 0]))]) hP hD [0] [1] rfl rfl (by decide) (by decide) hk1 hFc hP1 hD1
      have hP := hP.sub (ws' := [(a1, .inr (17, [.int 2, .ref a2, .ref a3, .ref a4, .long 0])), (a2, .inl (T 2, 12, .inr (.inr (.inr (.inr (fun _ => none))))))]) [1, 0] rfl
      have hD := hD.sub (ws' := [(a1, .inr (17, [.int 2, .ref a2, .ref a3, .ref a4, .long 0])), (a2, .inl (T 2, 12, .inr (.inr (.inr (.inr (fun _ => none))))))]) [1, 0] (by decide) rfl
      clear hPc hDc hFc hP1 hD1 hk1 hz1 ht hvm
      refine lv_if_eq (tgt := 51) hx hb dX12_centre_46 (by decide) (fun c_24 => absurd c_24 (by decide)) (fun c_24 => ?_)
      refine lv_iconst (v := 0) hx hb dX12_centre_49 (by decide) ?_
      have hP9 := hP.sub (ws' := [(a1, .inr (17, [.int 2, .ref a2, .ref a3, .ref a4, .long 0]))]) [0] rfl
      have hD9 := hD.sub (ws' := [(a1, .inr (17, [.int 2, .ref a2, .ref a3, .ref a4, .long 0]))]) [0] (by decide) rfl
      exact W.iret (v := 0) hx hb hr (fun t ht hW => ⟨⟨_, _, rfl, rfl, (Or.inr (⟨⟨c_2, c_10⟩, rfl, by rw [ht]; exact hP9, hD9⟩))⟩, hS.F ht⟩) hS.2.2 dX12_centre_50
set_option maxHeartbeats 4000000 in
set_option maxRecDepth 100000 in
theorem xcX12_centreDistance (l : Launch) (hst : l.stackTraces = false) (dC : Nat → ClassId) (dI : Nat → Nat → Nat) (T : Nat → ClassId) (a1 : Nat) (a2 : Nat) (a3 : Nat) (a4 : Nat) (sz : Nat) (p1 : Int32) : Met l yX12_centreDistance wsX12_centreDistance ({ frames := 1, cells := 0, slots := 0, locals := 25 } : Room) (va_Pc [.ref a1, .int p1] (fun U => xB dC dI T [(a1, .inr (17, [.int 0, .ref a2, .ref a3, .ref a4, .long 0])), (a2, .inl (T 2, 12, .inr (.inr (.inr (.inr (fun _ => none))))))] sz U)) (va_Qi (fun (r u : Int32) => r = u) (fun (u : Int32) (t : State) => ((((p1.toInt64).toInt < 1) ∨ ((¬ ((p1.toInt64).toInt < 1)) ∧ (4 < (p1.toInt64).toInt))) ∧ 0 = u ∧ xE dC dI [(a1, .inr (17, [.int 1, .ref a2, .ref a3, .ref a4, .long 0]))] (va_A [(a1, .inr (17, [.int 0, .ref a2, .ref a3, .ref a4, .long 0])), (a2, .inl (T 2, 12, .inr (.inr (.inr (.inr (fun _ => none))))))] sz) t) ∨ (((¬ ((p1.toInt64).toInt < 1)) ∧ (¬ (4 < (p1.toInt64).toInt))) ∧ 0 = u ∧ xE dC dI [(a1, .inr (17, [.int 2, .ref a2, .ref a3, .ref a4, .long 0]))] (va_A [(a1, .inr (17, [.int 0, .ref a2, .ref a3, .ref a4, .long 0])), (a2, .inl (T 2, 12, .inr (.inr (.inr (.inr (fun _ => none))))))] sz) t)) (va_A [(a1, .inr (17, [.int 0, .ref a2, .ref a3, .ref a4, .long 0])), (a2, .inl (T 2, 12, .inr (.inr (.inr (.inr (fun _ => none))))))] sz)) 0 0 (va_A [(a1, .inr (17, [.int 0, .ref a2, .ref a3, .ref a4, .long 0])), (a2, .inl (T 2, 12, .inr (.inr (.inr (.inr (fun _ => none))))))] sz) := by
  refine Met.ofW (cc := cX12_centreDistance) (maxL := 2) (ret := (some .int)) (by decide +kernel) rfl ?_
  intro p e s m args below meth c s₁ B hml hv
  obtain ⟨rfl, hsz, hP, hK, hD0, hG⟩ := hv
  have hx := B.exec
  have hb := B.bytes
  have hr := B.returns
  have hts := atoms_spec (ws := wsX12_centreDistance) B.pre
  have hown : s.vm.findClass RX12 = some m.cls := findClass_of_methodNamed B.named
  have hlocks := B.notSynchronized
  subst hsz
  have hD := hD0.self (sz := s.heap.size)
  generalize hAe : va_A [(a1, .inr (17, [.int 0, .ref a2, .ref a3, .ref a4, .long 0])), (a2, .inl (T 2, 12, .inr (.inr (.inr (.inr (fun _ => none))))))] s.heap.size = A at hD hG ⊢
  have hA : ∀ q : Nat, s.heap.size ≤ q → A q := fun q h => by rw [← hAe]; exact Or.inr h
  have hS : va_S A s.heap s.heap [] := va_S.rf
  have hl := lv_entry ([.ref a1, .int p1]) (n := 2) (Nat.le_of_ble_eq_true rfl)
  rw [lg_entry_eq]
  generalize (lg_sl ([.ref a1, .int p1]) ++ List.replicate (2 - (lg_sl ([.ref a1, .int p1])).length) Slot.unset).toArray = ls at hl ⊢
  have hl : lv_has ls 2 [(0, .ref a1), (1, .int p1)] := hl
  refine lv_aload_n hx hb dX12_centreDistance_0 rfl (lv_at hl 0 rfl) ?_
  refine lv_iload_n hx hb dX12_centreDistance_1 rfl (lv_at hl 1 rfl) ?_
  refine lv_i2l hx hb dX12_centreDistance_2 rfl ?_
  refine lv_lconst (v := 1) hx hb dX12_centreDistance_3 (by decide) ?_
  refine lv_ldc2 (v := 4) hx hb hown (hts (.constantLong RX12 212 4) (by decide +kernel)) dX12_centreDistance_4 ?_
  have hPc := hP.sub (ws' := []) [] rfl
  have hDc := hD.sub (ws' := []) [] (by decide) rfl
  have hFc := va_free (wc := []) hD hS hA [] rfl
  refine va_calli (va_runS (As := [.long p1.toInt64, .long 1, .long 4]) (rest := [.ref a1]) ⟨hx, hb, hml, hown, hts⟩ (xcX12_isBetween_v3 l hst dC dI T s.heap.size p1.toInt64) (cwS 3 hts gX12_centreDistance_X12_isBetween rfl rfl rfl (by decide +kernel) ⟨Nat.le_of_ble_eq_true rfl, Nat.le_of_ble_eq_true rfl⟩) ⟨xBlind, xCall hK hG hS hPc hDc hFc⟩ rfl rfl hl.1 rfl (lv_room (Nat.le_of_ble_eq_true rfl)) dX12_centreDistance_7 ⟨Nat.le_of_ble_eq_true rfl, Nat.le_of_ble_eq_true rfl⟩) hS (fun q _ h => hFc q h) hFc (fun r_9 u t H locs ht hvm hw hB hz1 hk1 hS => ?_)
  subst hw
  rcases hB with ⟨c_1, hr_9, hP1, hD1⟩ | ⟨c_2, hr_9, hP1, hD1⟩
  · have hz_3 : (p1.toInt64).toInt = p1.toInt := Int32.toInt_toInt64 _
    rw [ht] at hP1
    subst hr_9
    obtain ⟨hP, hD⟩ := va_join (wr := [(a1, .inr (17, [.int 0, .ref a2, .ref a3, .ref a4, .long 0])), (a2, .inl (T 2, 12, .inr (.inr (.inr (.inr (fun _ => none))))))]) (w1 := []) hP hD [] [0, 1] rfl rfl (by decide) (by decide) hk1 hFc hP1 hD1
    have hP : va_P (dC, dI) vwCl [(a1, .inr (17, [.int 0, .ref a2, .ref a3, .ref a4, .long 0])), (a2, .inl (T 2, 12, .inr (.inr (.inr (.inr (fun _ => none))))))] H := hP
    have hD : va_D A [(a1, .inr (17, [.int 0, .ref a2, .ref a3, .ref a4, .long 0])), (a2, .inl (T 2, 12, .inr (.inr (.inr (.inr (fun _ => none))))))] := hD
    clear hPc hDc hFc hP1 hD1 hk1 hz1 ht hvm
    refine lv_if_ne (tgt := 17) hx hb dX12_centreDistance_10 (by decide) (fun c_4 => absurd c_4 (by decide)) (fun c_4 => ?_)
    refine lv_iconst (v := 1) hx hb dX12_centreDistance_13 (by decide) ?_
    refine lv_goto (tgt := 30) hx hb dX12_centreDistance_14 (by decide) ?_
    have hPc := hP.sub (ws' := [(a1, .inr (17, [.int 0, .ref a2, .ref a3, .ref a4, .long 0]))]) [0] rfl
    have hDc := hD.sub (ws' := [(a1, .inr (17, [.int 0, .ref a2, .ref a3, .ref a4, .long 0]))]) [0] (by decide) rfl
    have hFc := va_free (wc := [(a1, .inr (17, [.int 0, .ref a2, .ref a3, .ref a4, .long 0]))]) hD hS hA [0] rfl
    refine va_calli (va_runV (As := [.int 1]) (rest := []) ⟨hx, hb, hml, hown, hts⟩ (xcX12_isWrong l hst dC dI T a1 a2 a3 a4 H.size) (cwV 1 hts gX12_centreDistance_X12_isWrong rfl rfl rfl (by decide +kernel) ⟨Nat.le_of_ble_eq_true rfl, Nat.le_of_ble_eq_true rfl⟩) ⟨xBlind, va_recv hK hPc (ci := 17) (q0 := 0) rfl rfl, xCall hK hG hS hPc hDc hFc⟩ rfl rfl hl.1 rfl (lv_room (Nat.le_of_ble_eq_true rfl)) dX12_centreDistance_30 ⟨Nat.le_of_ble_eq_true rfl, Nat.le_of_ble_eq_true rfl⟩) hS (fun q _ h => hFc q h) hFc (fun r_9 u t H locs ht hvm hw hB hz1 hk1 hS => ?_)
    subst hw
    rcases hB with ⟨hr_9, hP1, hD1⟩
    rw [ht] at hP1
    subst hr_9
    obtain ⟨hP, hD⟩ := va_join (wr := [(a2, .inl (T 2, 12, .inr (.inr (.inr (.inr (fun _ => none))))))]) (w1 := [(a1, .inr (17, [.int 1, .ref a2, .ref a3, .ref a4, .long 0]))]) hP hD [0] [1] rfl rfl (by decide) (by decide) hk1 hFc hP1 hD1
    have hP := hP.sub (ws' := [(a1, .inr (17, [.int 1, .ref a2, .ref a3, .ref a4, .long 0])), (a2, .inl (T 2, 12, .inr (.inr (.inr (.inr (fun _ => none))))))]) [1, 0] rfl
    have hD := hD.sub (ws' := [(a1, .inr (17, [.int 1, .ref a2, .ref a3, .ref a4, .long 0])), (a2, .inl (T 2, 12, .inr (.inr (.inr (.inr (fun _ => none))))))]) [1, 0] (by decide) rfl
    clear hPc hDc hFc hP1 hD1 hk1 hz1 ht hvm
    refine lv_if_eq (tgt := 40) hx hb dX12_centreDistance_33 (by decide) (fun c_6 => absurd c_6 (by decide)) (fun c_6 => ?_)
    refine lv_iconst (v := 0) hx hb dX12_centreDistance_36 (by decide) ?_
    refine lv_goto (tgt := 50) hx hb dX12_centreDistance_37 (by decide) ?_
    have hP9 := hP.sub (ws' := [(a1, .inr (17, [.int 1, .ref a2, .ref a3, .ref a4, .long 0]))]) [0] rfl
    have hD9 := hD.sub (ws' := [(a1, .inr (17, [.int 1, .ref a2, .ref a3, .ref a4, .long 0]))]) [0] (by decide) rfl
    exact W.iret (v := 0) hx hb hr (fun t ht hW => ⟨⟨_, _, rfl, rfl, (Or.inl ⟨c_1, rfl, by rw [ht]; exact hP9, hD9⟩)⟩, hS.F ht⟩) hS.2.2 dX12_centreDistance_50
  · have hz_7 : (p1.toInt64).toInt = p1.toInt := Int32.toInt_toInt64 _
    rw [ht] at hP1
    subst hr_9
    obtain ⟨hP, hD⟩ := va_join (wr := [(a1, .inr (17, [.int 0, .ref a2, .ref a3, .ref a4, .long 0])), (a2, .inl (T 2, 12, .inr (.inr (.inr (.inr (fun _ => none))))))]) (w1 := []) hP hD [] [0, 1] rfl rfl (by decide) (by decide) hk1 hFc hP1 hD1
    have hP : va_P (dC, dI) vwCl [(a1, .inr (17, [.int 0, .ref a2, .ref a3, .ref a4, .long 0])), (a2, .inl (T 2, 12, .inr (.inr (.inr (.inr (fun _ => none))))))] H := hP
    have hD : va_D A [(a1, .inr (17, [.int 0, .ref a2, .ref a3, .ref a4, .long 0])), (a2, .inl (T 2, 12, .inr (.inr (.inr (.inr (fun _ => none))))))] := hD
    clear hPc hDc hFc hP1 hD1 hk1 hz1 ht hvm
    refine lv_if_ne (tgt := 17) hx hb dX12_centreDistance_10 (by decide) (fun c_8 => ?_) (fun c_8 => absurd c_8 (by decide))
    refine lv_aload_n hx hb dX12_centreDistance_17 rfl (lv_at hl 0 rfl) ?_
    have hPc := hP.sub (ws' := [(a1, .inr (17, [.int 0, .ref a2, .ref a3, .ref a4, .long 0])), (a2, .inl (T 2, 12, .inr (.inr (.inr (.inr (fun _ => none))))))]) [0, 1] rfl
    have hDc := hD.sub (ws' := [(a1, .inr (17, [.int 0, .ref a2, .ref a3, .ref a4, .long 0])), (a2, .inl (T 2, 12, .inr (.inr (.inr (.inr (fun _ => none))))))]) [0, 1] (by decide) rfl
    have hFc := va_free (wc := [(a1, .inr (17, [.int 0, .ref a2, .ref a3, .ref a4, .long 0])), (a2, .inl (T 2, 12, .inr (.inr (.inr (.inr (fun _ => none))))))]) hD hS hA [0, 1] rfl
    refine va_calli (va_runV (As := []) (rest := [.ref a1]) ⟨hx, hb, hml, hown, hts⟩ (xcX12_many l hst dC dI T a1 a2 a3 a4 H.size) (cwV 0 hts gX12_centreDistance_X12_many rfl rfl rfl (by decide +kernel) ⟨Nat.le_of_ble_eq_true rfl, Nat.le_of_ble_eq_true rfl⟩) ⟨xBlind, va_recv hK hPc (ci := 17) (q0 := 0) rfl rfl, xCall hK hG hS hPc hDc hFc⟩ rfl rfl hl.1 rfl (lv_room (Nat.le_of_ble_eq_true rfl)) dX12_centreDistance_18 ⟨Nat.le_of_ble_eq_true rfl, Nat.le_of_ble_eq_true rfl⟩) hS (fun q _ h => hFc q h) hFc (fun r_9 u t H locs ht hvm hw hB hz1 hk1 hS => ?_)
    subst hw
    rcases hB with ⟨hr_9, hP1, hD1⟩
    rw [ht] at hP1
    subst hr_9
    obtain ⟨hP, hD⟩ := va_join (wr := []) (w1 := [(a1, .inr (17, [.int 0, .ref a2, .ref a3, .ref a4, .long 0])), (a2, .inl (T 2, 12, .inr (.inr (.inr (.inr (fun _ => none))))))]) hP hD [0, 1] [] rfl rfl (by decide) (by decide) hk1 hFc hP1 hD1
    have hP : va_P (dC, dI) vwCl [(a1, .inr (17, [.int 0, .ref a2, .ref a3, .ref a4, .long 0])), (a2, .inl (T 2, 12, .inr (.inr (.inr (.inr (fun _ => none))))))] H := hP
    have hD : va_D A [(a1, .inr (17, [.int 0, .ref a2, .ref a3, .ref a4, .long 0])), (a2, .inl (T 2, 12, .inr (.inr (.inr (.inr (fun _ => none))))))] := hD
    clear hPc hDc hFc hP1 hD1 hk1 hz1 ht hvm
    refine lv_iload_n hx hb dX12_centreDistance_21 rfl (lv_at hl 1 rfl) ?_
    refine lv_icmp_ge (tgt := 29) hx hb dX12_centreDistance_22 (by decide) (fun c_10 => absurd (show p1.toInt ≤ 0 from (xi_le rfl (by decide +kernel)).mp c_10) (by omega)) (fun _ => ?_)
    refine lv_iconst (v := 2) hx hb dX12_centreDistance_25 (by decide) ?_
    refine lv_goto (tgt := 30) hx hb dX12_centreDistance_26 (by decide) ?_
    have hPc := hP.sub (ws' := [(a1, .inr (17, [.int 0, .ref a2, .ref a3, .ref a4, .long 0]))]) [0] rfl
    have hDc := hD.sub (ws' := [(a1, .inr (17, [.int 0, .ref a2, .ref a3, .ref a4, .long 0]))]) [0] (by decide) rfl
    have hFc := va_free (wc := [(a1, .inr (17, [.int 0, .ref a2, .ref a3, .ref a4, .long 0]))]) hD hS hA [0] rfl
    refine va_calli (va_runV (As := [.int 2]) (rest := []) ⟨hx, hb, hml, hown, hts⟩ (xcX12_isWrong_v3 l hst dC dI T a1 a2 a3 a4 H.size) (cwV 1 hts gX12_centreDistance_X12_isWrong rfl rfl rfl (by decide +kernel) ⟨Nat.le_of_ble_eq_true rfl, Nat.le_of_ble_eq_true rfl⟩) ⟨xBlind, va_recv hK hPc (ci := 17) (q0 := 0) rfl rfl, xCall hK hG hS hPc hDc hFc⟩ rfl rfl hl.1 rfl (lv_room (Nat.le_of_ble_eq_true rfl)) dX12_centreDistance_30 ⟨Nat.le_of_ble_eq_true rfl, Nat.le_of_ble_eq_true rfl⟩) hS (fun q _ h => hFc q h) hFc (fun r_9 u t H locs ht hvm hw hB hz1 hk1 hS => ?_)
    subst hw
    rcases hB with ⟨hr_9, hP1, hD1⟩
    rw [ht] at hP1
    subst hr_9
    obtain ⟨hP, hD⟩ := va_join (wr := [(a2, .inl (T 2, 12, .inr (.inr (.inr (.inr (fun _ => none))))))]) (w1 := [(a1, .inr (17, [.int 2, .ref a2, .ref a3, .ref a4, .long 0]))]) hP hD [0] [1] rfl rfl (by decide) (by decide) hk1 hFc hP1 hD1
    have hP := hP.sub (ws' := [(a1, .inr (17, [.int 2, .ref a2, .ref a3, .ref a4, .long 0])), (a2, .inl (T 2, 12, .inr (.inr (.inr (.inr (fun _ => none))))))]) [1, 0] rfl
    have hD := hD.sub (ws' := [(a1, .inr (17, [.int 2, .ref a2, .ref a3, .ref a4, .long 0])), (a2, .inl (T 2, 12, .inr (.inr (.inr (.inr (fun _ => none))))))]) [1, 0] (by decide) rfl
    clear hPc hDc hFc hP1 hD1 hk1 hz1 ht hvm
    refine lv_if_eq (tgt := 40) hx hb dX12_centreDistance_33 (by decide) (fun c_12 => absurd c_12 (by decide)) (fun c_12 => ?_)
    refine lv_iconst (v := 0) hx hb dX12_centreDistance_36 (by decide) ?_
    refine lv_goto (tgt := 50) hx hb dX12_centreDistance_37 (by decide) ?_
    have hP9 := hP.sub (ws' := [(a1, .inr (17, [.int 2, .ref a2, .ref a3, .ref a4, .long 0]))]) [0] rfl
    have hD9 := hD.sub (ws' := [(a1, .inr (17, [.int 2, .ref a2, .ref a3, .ref a4, .long 0]))]) [0] (by decide) rfl
    exact W.iret (v := 0) hx hb hr (fun t ht hW => ⟨⟨_, _, rfl, rfl, (Or.inr (⟨c_2, rfl, by rw [ht]; exact hP9, hD9⟩))⟩, hS.F ht⟩) hS.2.2 dX12_centreDistance_50
set_option maxHeartbeats 4000000 in
set_option maxRecDepth 100000 in
theorem xcX12_countTriangles (l : Launch) (hst : l.stackTraces = false) (dC : Nat → ClassId) (dI : Nat → Nat → Nat) (T : Nat → ClassId) (a1 : Nat) (a2 : Nat) (a3 : Nat) (a4 : Nat) (sz : Nat) : Met l yX12_countTriangles wsX12_countTriangles ({ frames := 2, cells := 0, slots := 0, locals := 46 } : Room) (va_Pc [.ref a1] (fun U => xB dC dI T [(a1, .inr (17, [.int 0, .ref a2, .ref a3, .ref a4, .long 0])), (a2, .inl (T 2, 12, .inr (.inr (.inr (.inr (fun _ => none))))))] sz U)) (va_Qi (fun (r u : Int32) => r = u) (fun (u : Int32) (t : State) => 0 = u ∧ xE dC dI [(a1, .inr (17, [.int 0, .ref a2, .ref a3, .ref a4, .long 0]))] (va_A [(a1, .inr (17, [.int 0, .ref a2, .ref a3, .ref a4, .long 0])), (a2, .inl (T 2, 12, .inr (.inr (.inr (.inr (fun _ => none))))))] sz) t) (va_A [(a1, .inr (17, [.int 0, .ref a2, .ref a3, .ref a4, .long 0])), (a2, .inl (T 2, 12, .inr (.inr (.inr (.inr (fun _ => none))))))] sz)) 0 0 (va_A [(a1, .inr (17, [.int 0, .ref a2, .ref a3, .ref a4, .long 0])), (a2, .inl (T 2, 12, .inr (.inr (.inr (.inr (fun _ => none))))))] sz) := by
  refine Met.ofW (cc := cX12_countTriangles) (maxL := 5) (ret := (some .int)) (by decide +kernel) rfl ?_
  intro p e s m args below meth c s₁ B hml hv
  obtain ⟨rfl, hsz, hP, hK, hD0, hG⟩ := hv
  have hx := B.exec
  have hb := B.bytes
  have hr := B.returns
  have hts := atoms_spec (ws := wsX12_countTriangles) B.pre
  have hown : s.vm.findClass RX12 = some m.cls := findClass_of_methodNamed B.named
  have hlocks := B.notSynchronized
  have hin_X12 : ∀ w ∈ wsX120, w ∈ wsX12_countTriangles := by decide +kernel
  subst hsz
  have hD := hD0.self (sz := s.heap.size)
  generalize hAe : va_A [(a1, .inr (17, [.int 0, .ref a2, .ref a3, .ref a4, .long 0])), (a2, .inl (T 2, 12, .inr (.inr (.inr (.inr (fun _ => none))))))] s.heap.size = A at hD hG ⊢
  have hA : ∀ q : Nat, s.heap.size ≤ q → A q := fun q h => by rw [← hAe]; exact Or.inr h
  have hS : va_S A s.heap s.heap [] := va_S.rf
  have hl := lv_entry ([.ref a1]) (n := 5) (Nat.le_of_ble_eq_true rfl)
  rw [lg_entry_eq]
  generalize (lg_sl ([.ref a1]) ++ List.replicate (5 - (lg_sl ([.ref a1])).length) Slot.unset).toArray = ls at hl ⊢
  have hl : lv_has ls 5 [(0, .ref a1)] := hl
  refine lv_aload_n hx hb dX12_countTriangles_0 rfl (lv_at hl 0 rfl) ?_
  refine lv_iconst (v := 0) hx hb dX12_countTriangles_1 (by decide) ?_
  refine va_put (D := (dC, dI)) (ci := 17) (v := .int 0) (ty := .int) (C := RX12) (T := TX12) (N := 5) hx hb hts hin_X12 tyX12 tyX12_ok nmX12 hown hK hP hD hS 0 rfl rfl 0 (by decide) (hts (.fieldLink RX12 25 "NearestwardModel" "thrown" "I") (by decide +kernel)) (fun _ h9 => h9) rfl (by decide +kernel) rfl rfl (Nat.le_of_ble_eq_true rfl) dX12_countTriangles_2 (fun H locs hP hD hS => ?_)
  have hP : va_P (dC, dI) vwCl [(a1, .inr (17, [.int 0, .ref a2, .ref a3, .ref a4, .long 0])), (a2, .inl (T 2, 12, .inr (.inr (.inr (.inr (fun _ => none))))))] H := hP
  have hD : va_D A [(a1, .inr (17, [.int 0, .ref a2, .ref a3, .ref a4, .long 0])), (a2, .inl (T 2, 12, .inr (.inr (.inr (.inr (fun _ => none))))))] := hD
  refine lv_iconst (v := 0) hx hb dX12_countTriangles_5 (by decide) ?_
  refine lv_istore_n (lv' := [(1, .int 0), (0, .ref a1)]) hx hb dX12_countTriangles_6 rfl hl (by decide) rfl (fun ls hl => ?_)
  refine lv_iconst (v := 0) hx hb dX12_countTriangles_7 (by decide) ?_
  refine lv_istore_n (lv' := [(2, .int 0), (1, .int 0), (0, .ref a1)]) hx hb dX12_countTriangles_8 rfl hl (by decide) rfl (fun ls hl => ?_)
  refine xLoop (P := fun i_k_1 H locs ls => va_P (dC, dI) vwCl [(a1, .inr (17, [.int 0, .ref a2, .ref a3, .ref a4, .long 0])), (a2, .inl (T 2, 12, .inr (.inr (.inr (.inr (fun _ => none))))))] H ∧ va_D A [(a1, .inr (17, [.int 0, .ref a2, .ref a3, .ref a4, .long 0])), (a2, .inl (T 2, 12, .inr (.inr (.inr (.inr (fun _ => none))))))] ∧ va_S A s.heap H locs ∧ lv_has ls 5 [(2, .int (nI i_k_1)), (1, .int 0), (0, .ref a1)]) (N := 12) (fun i_k_1 H locs ls hi_k_1 hI ih_k_1 => ?_) (0) _ _ _ (by omega) ⟨hP, hD, hS, lv_sub hl [0, 1, 2] rfl⟩
  obtain ⟨hP, hD, hS, hl⟩ := hI
  refine lv_iload_n hx hb dX12_countTriangles_9 rfl (lv_at hl 0 rfl) ?_
  refine lv_bipush (v := 12) hx hb dX12_countTriangles_10 (by decide) ?_
  have hz_3 : (nI i_k_1).toInt = ((i_k_1 : Nat) : Int) := nI_toInt (by omega)
  refine lv_icmp_ge (tgt := 99) hx hb dX12_countTriangles_12 (by decide) (fun c_2 => ?_) (fun c_2 => ?_)
  · have nc_2 : 12 ≤ (nI i_k_1).toInt := (xi_le (by decide +kernel) rfl).mp c_2
    refine lv_iload_n hx hb dX12_countTriangles_99 rfl (lv_at hl 1 rfl) ?_
    have hP9 := hP.sub (ws' := [(a1, .inr (17, [.int 0, .ref a2, .ref a3, .ref a4, .long 0]))]) [0] rfl
    have hD9 := hD.sub (ws' := [(a1, .inr (17, [.int 0, .ref a2, .ref a3, .ref a4, .long 0]))]) [0] (by decide) rfl
    exact W.iret (v := 0) hx hb hr (fun t ht hW => ⟨⟨_, _, rfl, rfl, ⟨rfl, by rw [ht]; exact hP9, hD9⟩⟩, hS.F ht⟩) hS.2.2 dX12_countTriangles_100
  · have nc_2 : ¬ (12 ≤ (nI i_k_1).toInt) := mt (xi_le (by decide +kernel) rfl).mpr c_2
    refine lv_iload_n hx hb dX12_countTriangles_15 rfl (lv_at hl 0 rfl) ?_
    refine lv_iconst (v := 1) hx hb dX12_countTriangles_16 (by decide) ?_
    refine lv_iadd hx hb dX12_countTriangles_17 ?_
    refine lv_topi (fun f_4 ef_4 => ?_)
    obtain rfl : f_4 = (nI (i_k_1 + 1)) := ef_4.trans (nI_add _ _)
    refine lv_istore_n (lv' := [(3, .int (nI (i_k_1 + 1))), (2, .int (nI i_k_1)), (1, .int 0), (0, .ref a1)]) hx hb dX12_countTriangles_18 rfl hl (by decide) rfl (fun ls hl => ?_)
    refine xLoop (P := fun i_k_5 H locs ls => va_P (dC, dI) vwCl [(a1, .inr (17, [.int 0, .ref a2, .ref a3, .ref a4, .long 0])), (a2, .inl (T 2, 12, .inr (.inr (.inr (.inr (fun _ => none))))))] H ∧ va_D A [(a1, .inr (17, [.int 0, .ref a2, .ref a3, .ref a4, .long 0])), (a2, .inl (T 2, 12, .inr (.inr (.inr (.inr (fun _ => none))))))] ∧ va_S A s.heap H locs ∧ lv_has ls 5 [(3, .int (nI i_k_5)), (2, .int (nI i_k_1)), (1, .int 0), (0, .ref a1)]) (N := 12) (fun i_k_5 H locs ls hi_k_5 hI ih_k_5 => ?_) (i_k_1 + 1) _ _ _ (by omega) ⟨hP, hD, hS, lv_sub hl [0, 1, 2, 3] rfl⟩
    obtain ⟨hP, hD, hS, hl⟩ := hI
    refine lv_iload_n hx hb dX12_countTriangles_19 rfl (lv_at hl 0 rfl) ?_
    refine lv_bipush (v := 12) hx hb dX12_countTriangles_20 (by decide) ?_
    have hz_7 : (nI i_k_5).toInt = ((i_k_5 : Nat) : Int) := nI_toInt (by omega)
    refine lv_icmp_ge (tgt := 93) hx hb dX12_countTriangles_22 (by decide) (fun c_6 => ?_) (fun c_6 => ?_)
    · have nc_6 : 12 ≤ (nI i_k_5).toInt := (xi_le (by decide +kernel) rfl).mp c_6
      refine lv_iinc (v := (nI (i_k_1 + 1))) (lv' := [(2, .int (nI (i_k_1 + 1))), (3, .int (nI i_k_5)), (1, .int 0), (0, .ref a1)]) hx hb dX12_countTriangles_93 hl (k := 1) rfl (nI_1 _) (by decide) rfl (fun ls hl => ?_)
      refine lv_goto (tgt := 9) hx hb dX12_countTriangles_96 (by decide) ?_
      exact ih_k_1 _ _ _ (by omega) ⟨hP, hD, hS, lv_sub hl [0, 2, 3] rfl⟩
    · have nc_6 : ¬ (12 ≤ (nI i_k_5).toInt) := mt (xi_le (by decide +kernel) rfl).mpr c_6
      refine lv_iload_n hx hb dX12_countTriangles_25 rfl (lv_at hl 0 rfl) ?_
      refine lv_iconst (v := 1) hx hb dX12_countTriangles_26 (by decide) ?_
      refine lv_iadd hx hb dX12_countTriangles_27 ?_
      refine lv_topi (fun f_8 ef_8 => ?_)
      obtain rfl : f_8 = (nI (i_k_5 + 1)) := ef_8.trans (nI_add _ _)
      refine lv_istore (lv' := [(4, .int (nI (i_k_5 + 1))), (3, .int (nI i_k_5)), (2, .int (nI i_k_1)), (1, .int 0), (0, .ref a1)]) hx hb dX12_countTriangles_28 hl (by decide) rfl (fun ls hl => ?_)
      refine xLoop (P := fun i_k_9 H locs ls => va_P (dC, dI) vwCl [(a1, .inr (17, [.int 0, .ref a2, .ref a3, .ref a4, .long 0])), (a2, .inl (T 2, 12, .inr (.inr (.inr (.inr (fun _ => none))))))] H ∧ va_D A [(a1, .inr (17, [.int 0, .ref a2, .ref a3, .ref a4, .long 0])), (a2, .inl (T 2, 12, .inr (.inr (.inr (.inr (fun _ => none))))))] ∧ va_S A s.heap H locs ∧ lv_has ls 5 [(4, .int (nI i_k_9)), (3, .int (nI i_k_5)), (2, .int (nI i_k_1)), (1, .int 0), (0, .ref a1)]) (N := 12) (fun i_k_9 H locs ls hi_k_9 hI ih_k_9 => ?_) (i_k_5 + 1) _ _ _ (by omega) ⟨hP, hD, hS, lv_sub hl [0, 1, 2, 3, 4] rfl⟩
      obtain ⟨hP, hD, hS, hl⟩ := hI
      refine lv_iload hx hb dX12_countTriangles_30 (lv_at hl 0 rfl) ?_
      refine lv_bipush (v := 12) hx hb dX12_countTriangles_32 (by decide) ?_
      have hz_11 : (nI i_k_9).toInt = ((i_k_9 : Nat) : Int) := nI_toInt (by omega)
      refine lv_icmp_ge (tgt := 87) hx hb dX12_countTriangles_34 (by decide) (fun c_10 => ?_) (fun c_10 => ?_)
      · have nc_10 : 12 ≤ (nI i_k_9).toInt := (xi_le (by decide +kernel) rfl).mp c_10
        refine lv_iinc (v := (nI (i_k_5 + 1))) (lv' := [(3, .int (nI (i_k_5 + 1))), (4, .int (nI i_k_9)), (2, .int (nI i_k_1)), (1, .int 0), (0, .ref a1)]) hx hb dX12_countTriangles_87 hl (k := 1) rfl (nI_1 _) (by decide) rfl (fun ls hl => ?_)
        refine lv_goto (tgt := 19) hx hb dX12_countTriangles_90 (by decide) ?_
        exact ih_k_5 _ _ _ (by omega) ⟨hP, hD, hS, lv_sub hl [0, 2, 3, 4] rfl⟩
      · have nc_10 : ¬ (12 ≤ (nI i_k_9).toInt) := mt (xi_le (by decide +kernel) rfl).mpr c_10
        refine lv_iload_n hx hb dX12_countTriangles_37 rfl (lv_at hl 3 rfl) ?_
        refine lv_aload_n hx hb dX12_countTriangles_38 rfl (lv_at hl 4 rfl) ?_
        refine lv_iload_n hx hb dX12_countTriangles_39 rfl (lv_at hl 2 rfl) ?_
        have hPc := hP.sub (ws' := [(a1, .inr (17, [.int 0, .ref a2, .ref a3, .ref a4, .long 0])), (a2, .inl (T 2, 12, .inr (.inr (.inr (.inr (fun _ => none))))))]) [0, 1] rfl
        have hDc := hD.sub (ws' := [(a1, .inr (17, [.int 0, .ref a2, .ref a3, .ref a4, .long 0])), (a2, .inl (T 2, 12, .inr (.inr (.inr (.inr (fun _ => none))))))]) [0, 1] (by decide) rfl
        have hFc := va_free (wc := [(a1, .inr (17, [.int 0, .ref a2, .ref a3, .ref a4, .long 0])), (a2, .inl (T 2, 12, .inr (.inr (.inr (.inr (fun _ => none))))))]) hD hS hA [0, 1] rfl
        refine va_calli (va_runV (As := [.int (nI i_k_1)]) (rest := [.int 0]) ⟨hx, hb, hml, hown, hts⟩ (xcX12_isThere l hst dC dI T a1 a2 a3 a4 H.size (nI i_k_1)) (cwV 1 hts gX12_countTriangles_X12_isThere rfl rfl rfl (by decide +kernel) ⟨Nat.le_of_ble_eq_true rfl, Nat.le_of_ble_eq_true rfl⟩) ⟨xBlind, va_recv hK hPc (ci := 17) (q0 := 0) rfl rfl, xCall hK hG hS hPc hDc hFc⟩ rfl rfl hl.1 rfl (lv_room (Nat.le_of_ble_eq_true rfl)) dX12_countTriangles_40 ⟨Nat.le_of_ble_eq_true rfl, Nat.le_of_ble_eq_true rfl⟩) hS (fun q _ h => hFc q h) hFc (fun r_9 u t H locs ht hvm hw hB hz1 hk1 hS => ?_)
        subst hw
        rcases hB with ⟨hr_9, hP1, hD1⟩
        rw [ht] at hP1
        subst hr_9
        obtain ⟨hP, hD⟩ := va_join (wr := []) (w1 := [(a1, .inr (17, [.int 0, .ref a2, .ref a3, .ref a4, .long 0])), (a2, .inl (T 2, 12, .inr (.inr (.inr (.inr (fun _ => none))))))]) hP hD [0, 1] [] rfl rfl (by decide) (by decide) hk1 hFc hP1 hD1
        have hP : va_P (dC, dI) vwCl [(a1, .inr (17, [.int 0, .ref a2, .ref a3, .ref a4, .long 0])), (a2, .inl (T 2, 12, .inr (.inr (.inr (.inr (fun _ => none))))))] H := hP
        have hD : va_D A [(a1, .inr (17, [.int 0, .ref a2, .ref a3, .ref a4, .long 0])), (a2, .inl (T 2, 12, .inr (.inr (.inr (.inr (fun _ => none))))))] := hD
        clear hPc hDc hFc hP1 hD1 hk1 hz1 ht hvm
        refine lv_if_eq (tgt := 78) hx hb dX12_countTriangles_43 (by decide) (fun c_13 => ?_) (fun c_13 => absurd (by decide) c_13)
        refine lv_iconst (v := 0) hx hb dX12_countTriangles_78 (by decide) ?_
        refine lv_iadd hx hb dX12_countTriangles_79 ?_
        refine lv_topi (fun f_14 ef_14 => ?_)
        obtain rfl : f_14 = 0 := ef_14.trans (by decide)
        refine lv_istore_n (lv' := [(1, .int 0), (4, .int (nI i_k_9)), (3, .int (nI i_k_5)), (2, .int (nI i_k_1)), (0, .ref a1)]) hx hb dX12_countTriangles_80 rfl hl (by decide) rfl (fun ls hl => ?_)
        refine lv_iinc (v := (nI (i_k_9 + 1))) (lv' := [(4, .int (nI (i_k_9 + 1))), (1, .int 0), (3, .int (nI i_k_5)), (2, .int (nI i_k_1)), (0, .ref a1)]) hx hb dX12_countTriangles_81 hl (k := 1) rfl (nI_1 _) (by decide) rfl (fun ls hl => ?_)
        refine lv_goto (tgt := 30) hx hb dX12_countTriangles_84 (by decide) ?_
        exact ih_k_9 _ _ _ (by omega) ⟨hP, hD, hS, lv_sub hl [0, 2, 3, 1, 4] rfl⟩
set_option maxHeartbeats 4000000 in
set_option maxRecDepth 100000 in
theorem xcX12_checksum (l : Launch) (hst : l.stackTraces = false) (dC : Nat → ClassId) (dI : Nat → Nat → Nat) (T : Nat → ClassId) (a1 : Nat) (a2 : Nat) (a3 : Nat) (a4 : Nat) (sz : Nat) : Met l yX12_checksum wsX12_checksum ({ frames := 3, cells := 0, slots := 0, locals := 70 } : Room) (va_Pc [.ref a1] (fun U => xB dC dI T [(a1, .inr (17, [.int 0, .ref a2, .ref a3, .ref a4, .long 0])), (a2, .inl (T 2, 12, .inr (.inr (.inr (.inr (fun _ => none)))))), (a4, .inr (4, [.int 0, .ref (dI 1000 0), .int 0]))] sz U)) (va_Ql (fun (r u : Int64) => r = u) (fun (u : Int64) (t : State) => 6727 = u ∧ xE dC dI [(a1, .inr (17, [.int 0, .ref a2, .ref a3, .ref a4, .long 0]))] (va_A [(a1, .inr (17, [.int 0, .ref a2, .ref a3, .ref a4, .long 0])), (a2, .inl (T 2, 12, .inr (.inr (.inr (.inr (fun _ => none)))))), (a4, .inr (4, [.int 0, .ref (dI 1000 0), .int 0]))] sz) t) (va_A [(a1, .inr (17, [.int 0, .ref a2, .ref a3, .ref a4, .long 0])), (a2, .inl (T 2, 12, .inr (.inr (.inr (.inr (fun _ => none)))))), (a4, .inr (4, [.int 0, .ref (dI 1000 0), .int 0]))] sz)) 0 0 (va_A [(a1, .inr (17, [.int 0, .ref a2, .ref a3, .ref a4, .long 0])), (a2, .inl (T 2, 12, .inr (.inr (.inr (.inr (fun _ => none)))))), (a4, .inr (4, [.int 0, .ref (dI 1000 0), .int 0]))] sz) := by
  refine Met.ofW (cc := cX12_checksum) (maxL := 4) (ret := (some .long)) (by decide +kernel) rfl ?_
  intro p e s m args below meth c s₁ B hml hv
  obtain ⟨rfl, hsz, hP, hK, hD0, hG⟩ := hv
  have hx := B.exec
  have hb := B.bytes
  have hr := B.returns
  have hts := atoms_spec (ws := wsX12_checksum) B.pre
  have hown : s.vm.findClass RX12 = some m.cls := findClass_of_methodNamed B.named
  have hlocks := B.notSynchronized
  have hin_X12 : ∀ w ∈ wsX120, w ∈ wsX12_checksum := by decide +kernel
  subst hsz
  have hD := hD0.self (sz := s.heap.size)
  generalize hAe : va_A [(a1, .inr (17, [.int 0, .ref a2, .ref a3, .ref a4, .long 0])), (a2, .inl (T 2, 12, .inr (.inr (.inr (.inr (fun _ => none)))))), (a4, .inr (4, [.int 0, .ref (dI 1000 0), .int 0]))] s.heap.size = A at hD hG ⊢
  have hA : ∀ q : Nat, s.heap.size ≤ q → A q := fun q h => by rw [← hAe]; exact Or.inr h
  have hS : va_S A s.heap s.heap [] := va_S.rf
  have hl := lv_entry ([.ref a1]) (n := 4) (Nat.le_of_ble_eq_true rfl)
  rw [lg_entry_eq]
  generalize (lg_sl ([.ref a1]) ++ List.replicate (4 - (lg_sl ([.ref a1])).length) Slot.unset).toArray = ls at hl ⊢
  have hl : lv_has ls 4 [(0, .ref a1)] := hl
  refine lv_ldc2 (v := 7) hx hb hown (hts (.constantLong RX12 311 7) (by decide +kernel)) dX12_checksum_0 ?_
  refine lv_lstore_n (lv' := [(1, .long 7), (0, .ref a1)]) hx hb dX12_checksum_3 rfl hl (by decide) rfl (fun ls hl => ?_)
  refine lv_iconst (v := 0) hx hb dX12_checksum_4 (by decide) ?_
  refine lv_istore_n (lv' := [(3, .int 0), (1, .long 7), (0, .ref a1)]) hx hb dX12_checksum_5 rfl hl (by decide) rfl (fun ls hl => ?_)
  refine xLoop (P := fun i_k_1 H locs ls => va_P (dC, dI) vwCl [(a1, .inr (17, [.int 0, .ref a2, .ref a3, .ref a4, .long 0])), (a2, .inl (T 2, 12, .inr (.inr (.inr (.inr (fun _ => none)))))), (a4, .inr (4, [.int 0, .ref (dI 1000 0), .int 0]))] H ∧ va_D A [(a1, .inr (17, [.int 0, .ref a2, .ref a3, .ref a4, .long 0])), (a2, .inl (T 2, 12, .inr (.inr (.inr (.inr (fun _ => none)))))), (a4, .inr (4, [.int 0, .ref (dI 1000 0), .int 0]))] ∧ va_S A s.heap H locs ∧ lv_has ls 4 [(3, .int (nI i_k_1)), (1, .long 7), (0, .ref a1)]) (N := 12) (fun i_k_1 H locs ls hi_k_1 hI ih_k_1 => ?_) (0) _ _ _ (by omega) ⟨hP, hD, hS, lv_sub hl [0, 1, 2] rfl⟩
  obtain ⟨hP, hD, hS, hl⟩ := hI
  refine lv_iload_n hx hb dX12_checksum_6 rfl (lv_at hl 0 rfl) ?_
  refine lv_bipush (v := 12) hx hb dX12_checksum_7 (by decide) ?_
  have hz_3 : (nI i_k_1).toInt = ((i_k_1 : Nat) : Int) := nI_toInt (by omega)
  refine lv_icmp_ge (tgt := 78) hx hb dX12_checksum_9 (by decide) (fun c_2 => ?_) (fun c_2 => ?_)
  · have nc_2 : 12 ≤ (nI i_k_1).toInt := (xi_le (by decide +kernel) rfl).mp c_2
    refine lv_ldc2 (v := 31) hx hb hown (hts (.constantLong RX12 313 31) (by decide +kernel)) dX12_checksum_78 ?_
    refine lv_ldc2 (v := 31) hx hb hown (hts (.constantLong RX12 313 31) (by decide +kernel)) dX12_checksum_81 ?_
    refine lv_lload_n hx hb dX12_checksum_84 rfl (lv_at hl 1 rfl) ?_
    refine lv_lmul hx hb dX12_checksum_85 ?_
    refine lv_topl (fun f_4 ef_4 => ?_)
    obtain rfl : f_4 = 217 := ef_4.trans (by decide)
    refine lv_aload_n hx hb dX12_checksum_86 rfl (lv_at hl 2 rfl) ?_
    refine va_get (D := (dC, dI)) (ci := 17) (v := .ref a4) (C := RX12) (T := TX12) (N := 5) hx hb hts hin_X12 hown hK hP 0 rfl rfl 3 (by decide) (hts (.fieldLink RX12 22 "NearestwardModel" "walls" "Ljava/util/List;") (by decide +kernel)) (fun _ h9 => h9) rfl dX12_checksum_87 ?_
    have hPc := hP.sub (ws' := [(a4, .inr (4, [.int 0, .ref (dI 1000 0), .int 0]))]) [2] rfl
    have hDc := hD.sub (ws' := [(a4, .inr (4, [.int 0, .ref (dI 1000 0), .int 0]))]) [2] (by decide) rfl
    have hFc := va_free (wc := [(a4, .inr (4, [.int 0, .ref (dI 1000 0), .int 0]))]) hD hS hA [2] rfl
    refine va_callFi (va_runF (As := []) (rest := [.long 217, .long 31]) (hK.1 4 _ rfl).2 ⟨hx, hb, hml, hown, hts⟩ (xcJx4a65c_size_8abf5_v2 l hst dC dI T a4 H.size) (va_cwF 0 hts gX12_checksum_Jx4a65c_size_8abf5_f56Jx4a65c rfl rfl rfl (hG.2.2.2.2.2.2.1 ((⟨"java/util/List", "size", "()I"⟩ : MethodName), yJx4a65c_size_8abf5) (List.mem_of_getElem? (i := 1) rfl)) (by decide +kernel) ⟨Nat.le_of_ble_eq_true rfl, Nat.le_of_ble_eq_true rfl⟩) ⟨xBlind, va_recv hK hPc (ci := 4) (q0 := 0) rfl rfl, xCall hK hG hS hPc hDc hFc⟩ rfl rfl hl.1 rfl (lv_room (Nat.le_of_ble_eq_true rfl)) dX12_checksum_90 ⟨Nat.le_of_ble_eq_true rfl, Nat.le_of_ble_eq_true rfl⟩) hS (fun q _ h => hFc q h) hFc (fun r_9 u t H locs ht hvm hw hB hz1 hk1 hS => ?_)
    subst hw
    rcases hB with ⟨hr_9, hP1, hD1⟩
    rw [ht] at hP1
    subst hr_9
    obtain ⟨hP, hD⟩ := va_join (wr := [(a1, .inr (17, [.int 0, .ref a2, .ref a3, .ref a4, .long 0])), (a2, .inl (T 2, 12, .inr (.inr (.inr (.inr (fun _ => none))))))]) (w1 := [(a4, .inr (4, [.int 0, .ref (dI 1000 0), .int 0]))]) hP hD [2] [0, 1] rfl rfl (by decide) (by decide) hk1 hFc hP1 hD1
    have hP : va_P (dC, dI) vwCl [(a1, .inr (17, [.int 0, .ref a2, .ref a3, .ref a4, .long 0])), (a2, .inl (T 2, 12, .inr (.inr (.inr (.inr (fun _ => none)))))), (a4, .inr (4, [.int 0, .ref (dI 1000 0), .int 0]))] H := hP
    have hD : va_D A [(a1, .inr (17, [.int 0, .ref a2, .ref a3, .ref a4, .long 0])), (a2, .inl (T 2, 12, .inr (.inr (.inr (.inr (fun _ => none)))))), (a4, .inr (4, [.int 0, .ref (dI 1000 0), .int 0]))] := hD
    clear hPc hDc hFc hP1 hD1 hk1 hz1 ht hvm
    refine lv_i2l (v := 0) hx hb dX12_checksum_95 (by decide) ?_
    refine lv_ladd hx hb dX12_checksum_96 ?_
    refine lv_topl (fun f_6 ef_6 => ?_)
    obtain rfl : f_6 = 217 := ef_6.trans (by decide)
    refine lv_lmul hx hb dX12_checksum_97 ?_
    refine lv_topl (fun f_7 ef_7 => ?_)
    obtain rfl : f_7 = 6727 := ef_7.trans (by decide)
    refine lv_aload_n hx hb dX12_checksum_98 rfl (lv_at hl 2 rfl) ?_
    have hPc := hP.sub (ws' := [(a1, .inr (17, [.int 0, .ref a2, .ref a3, .ref a4, .long 0])), (a2, .inl (T 2, 12, .inr (.inr (.inr (.inr (fun _ => none))))))]) [0, 1] rfl
    have hDc := hD.sub (ws' := [(a1, .inr (17, [.int 0, .ref a2, .ref a3, .ref a4, .long 0])), (a2, .inl (T 2, 12, .inr (.inr (.inr (.inr (fun _ => none))))))]) [0, 1] (by decide) rfl
    have hFc := va_free (wc := [(a1, .inr (17, [.int 0, .ref a2, .ref a3, .ref a4, .long 0])), (a2, .inl (T 2, 12, .inr (.inr (.inr (.inr (fun _ => none))))))]) hD hS hA [0, 1] rfl
    refine va_calli (va_runV (As := []) (rest := [.long 6727]) ⟨hx, hb, hml, hown, hts⟩ (xcX12_countTriangles l hst dC dI T a1 a2 a3 a4 H.size) (cwV 0 hts gX12_checksum_X12_countTriangles rfl rfl rfl (by decide +kernel) ⟨Nat.le_of_ble_eq_true rfl, Nat.le_of_ble_eq_true rfl⟩) ⟨xBlind, va_recv hK hPc (ci := 17) (q0 := 0) rfl rfl, xCall hK hG hS hPc hDc hFc⟩ rfl rfl hl.1 rfl (lv_room (Nat.le_of_ble_eq_true rfl)) dX12_checksum_99 ⟨Nat.le_of_ble_eq_true rfl, Nat.le_of_ble_eq_true rfl⟩) hS (fun q _ h => hFc q h) hFc (fun r_9 u t H locs ht hvm hw hB hz1 hk1 hS => ?_)
    subst hw
    rcases hB with ⟨hr_9, hP1, hD1⟩
    rw [ht] at hP1
    subst hr_9
    obtain ⟨hP, hD⟩ := va_join (wr := [(a4, .inr (4, [.int 0, .ref (dI 1000 0), .int 0]))]) (w1 := [(a1, .inr (17, [.int 0, .ref a2, .ref a3, .ref a4, .long 0]))]) hP hD [0, 1] [2] rfl rfl (by decide) (by decide) hk1 hFc hP1 hD1
    have hP := hP.sub (ws' := [(a1, .inr (17, [.int 0, .ref a2, .ref a3, .ref a4, .long 0])), (a4, .inr (4, [.int 0, .ref (dI 1000 0), .int 0]))]) [1, 0] rfl
    have hD := hD.sub (ws' := [(a1, .inr (17, [.int 0, .ref a2, .ref a3, .ref a4, .long 0])), (a4, .inr (4, [.int 0, .ref (dI 1000 0), .int 0]))]) [1, 0] (by decide) rfl
    clear hPc hDc hFc hP1 hD1 hk1 hz1 ht hvm
    refine lv_i2l (v := 0) hx hb dX12_checksum_102 (by decide) ?_
    refine lv_ladd hx hb dX12_checksum_103 ?_
    refine lv_topl (fun f_9 ef_9 => ?_)
    obtain rfl : f_9 = 6727 := ef_9.trans (by decide)
    have hP9 := hP.sub (ws' := [(a1, .inr (17, [.int 0, .ref a2, .ref a3, .ref a4, .long 0]))]) [0] rfl
    have hD9 := hD.sub (ws' := [(a1, .inr (17, [.int 0, .ref a2, .ref a3, .ref a4, .long 0]))]) [0] (by decide) rfl
    exact W.lret (v := 6727) hx hb hr (fun t ht hW => ⟨⟨_, _, rfl, rfl, ⟨rfl, by rw [ht]; exact hP9, hD9⟩⟩, hS.F ht⟩) hS.2.2 dX12_checksum_104
  · have nc_2 : ¬ (12 ≤ (nI i_k_1).toInt) := mt (xi_le (by decide +kernel) rfl).mpr c_2
    refine lv_aload_n hx hb dX12_checksum_12 rfl (lv_at hl 2 rfl) ?_
    refine va_get (D := (dC, dI)) (ci := 17) (v := .ref a2) (C := RX12) (T := TX12) (N := 5) hx hb hts hin_X12 hown hK hP 0 rfl rfl 1 (by decide) (hts (.fieldLink RX12 11 "NearestwardModel" "points" "[[I") (by decide +kernel)) (fun _ h9 => h9) rfl dX12_checksum_13 ?_
    refine lv_iload_n hx hb dX12_checksum_16 rfl (lv_at hl 0 rfl) ?_
    refine xAldq hx hb hK hP 1 2 rfl rfl (vp_in_nI (by omega) (by decide)) dX12_checksum_17 ?_
    refine lv_ifnullN (tgt := 72) hx hb dX12_checksum_18 (by decide) ?_
    refine lv_iinc (v := (nI (i_k_1 + 1))) (lv' := [(3, .int (nI (i_k_1 + 1))), (1, .long 7), (0, .ref a1)]) hx hb dX12_checksum_72 hl (k := 0) rfl (nI_1 _) (by decide) rfl (fun ls hl => ?_)
    refine lv_goto (tgt := 6) hx hb dX12_checksum_75 (by decide) ?_
    exact ih_k_1 _ _ _ (by omega) ⟨hP, hD, hS, lv_sub hl [0, 1, 2] rfl⟩
set_option maxHeartbeats 4000000 in
set_option maxRecDepth 100000 in
theorem xcX12_cluster (l : Launch) (hst : l.stackTraces = false) (dC : Nat → ClassId) (dI : Nat → Nat → Nat) (T : Nat → ClassId) (a1 : Nat) (a2 : Nat) (a3 : Nat) (a4 : Nat) (sz : Nat) (p1 : Int32) (p2 : Int32) (p3 : Int32) : Met l yX12_cluster wsX12_cluster ({ frames := 3, cells := 0, slots := 0, locals := 67 } : Room) (va_Pc [.ref a1, .int p1, .int p2, .int p3] (fun U => xB dC dI T [(a1, .inr (17, [.int 0, .ref a2, .ref a3, .ref a4, .long 0])), (a2, .inl (T 2, 12, .inr (.inr (.inr (.inr (fun _ => none))))))] sz U)) (va_Qi (fun (r u : Int32) => r = u) (fun (u : Int32) (t : State) => 0 = u ∧ xE dC dI [(a1, .inr (17, [.int 1, .ref a2, .ref a3, .ref a4, .long 0]))] (va_A [(a1, .inr (17, [.int 0, .ref a2, .ref a3, .ref a4, .long 0])), (a2, .inl (T 2, 12, .inr (.inr (.inr (.inr (fun _ => none))))))] sz) t) (va_A [(a1, .inr (17, [.int 0, .ref a2, .ref a3, .ref a4, .long 0])), (a2, .inl (T 2, 12, .inr (.inr (.inr (.inr (fun _ => none))))))] sz)) 0 0 (va_A [(a1, .inr (17, [.int 0, .ref a2, .ref a3, .ref a4, .long 0])), (a2, .inl (T 2, 12, .inr (.inr (.inr (.inr (fun _ => none))))))] sz) := by
  refine Met.ofW (cc := cX12_cluster) (maxL := 4) (ret := (some .int)) (by decide +kernel) rfl ?_
  intro p e s m args below meth c s₁ B hml hv
  obtain ⟨rfl, hsz, hP, hK, hD0, hG⟩ := hv
  have hx := B.exec
  have hb := B.bytes
  have hr := B.returns
  have hts := atoms_spec (ws := wsX12_cluster) B.pre
  have hown : s.vm.findClass RX12 = some m.cls := findClass_of_methodNamed B.named
  have hlocks := B.notSynchronized
  subst hsz
  have hD := hD0.self (sz := s.heap.size)
  generalize hAe : va_A [(a1, .inr (17, [.int 0, .ref a2, .ref a3, .ref a4, .long 0])), (a2, .inl (T 2, 12, .inr (.inr (.inr (.inr (fun _ => none))))))] s.heap.size = A at hD hG ⊢
  have hA : ∀ q : Nat, s.heap.size ≤ q → A q := fun q h => by rw [← hAe]; exact Or.inr h
  have hS : va_S A s.heap s.heap [] := va_S.rf
  have hl := lv_entry ([.ref a1, .int p1, .int p2, .int p3]) (n := 4) (Nat.le_of_ble_eq_true rfl)
  rw [lg_entry_eq]
  generalize (lg_sl ([.ref a1, .int p1, .int p2, .int p3]) ++ List.replicate (4 - (lg_sl ([.ref a1, .int p1, .int p2, .int p3])).length) Slot.unset).toArray = ls at hl ⊢
  have hl : lv_has ls 4 [(0, .ref a1), (1, .int p1), (2, .int p2), (3, .int p3)] := hl
  refine lv_aload_n hx hb dX12_cluster_0 rfl (lv_at hl 0 rfl) ?_
  refine lv_iload_n hx hb dX12_cluster_1 rfl (lv_at hl 3 rfl) ?_
  have hPc := hP.sub (ws' := [(a1, .inr (17, [.int 0, .ref a2, .ref a3, .ref a4, .long 0])), (a2, .inl (T 2, 12, .inr (.inr (.inr (.inr (fun _ => none))))))]) [0, 1] rfl
  have hDc := hD.sub (ws' := [(a1, .inr (17, [.int 0, .ref a2, .ref a3, .ref a4, .long 0])), (a2, .inl (T 2, 12, .inr (.inr (.inr (.inr (fun _ => none))))))]) [0, 1] (by decide) rfl
  have hFc := va_free (wc := [(a1, .inr (17, [.int 0, .ref a2, .ref a3, .ref a4, .long 0])), (a2, .inl (T 2, 12, .inr (.inr (.inr (.inr (fun _ => none))))))]) hD hS hA [0, 1] rfl
  refine va_calli (va_runV (As := [.int p3]) (rest := []) ⟨hx, hb, hml, hown, hts⟩ (xcX12_isNoPoint l hst dC dI T a1 a2 a3 a4 s.heap.size p3) (cwV 1 hts gX12_cluster_X12_isNoPoint rfl rfl rfl (by decide +kernel) ⟨Nat.le_of_ble_eq_true rfl, Nat.le_of_ble_eq_true rfl⟩) ⟨xBlind, va_recv hK hPc (ci := 17) (q0 := 0) rfl rfl, xCall hK hG hS hPc hDc hFc⟩ rfl rfl hl.1 rfl (lv_room (Nat.le_of_ble_eq_true rfl)) dX12_cluster_2 ⟨Nat.le_of_ble_eq_true rfl, Nat.le_of_ble_eq_true rfl⟩) hS (fun q _ h => hFc q h) hFc (fun r_9 u t H locs ht hvm hw hB hz1 hk1 hS => ?_)
  subst hw
  rcases hB with ⟨hr_9, hP1, hD1⟩
  rw [ht] at hP1
  subst hr_9
  obtain ⟨hP, hD⟩ := va_join (wr := []) (w1 := [(a1, .inr (17, [.int 1, .ref a2, .ref a3, .ref a4, .long 0])), (a2, .inl (T 2, 12, .inr (.inr (.inr (.inr (fun _ => none))))))]) hP hD [0, 1] [] rfl rfl (by decide) (by decide) hk1 hFc hP1 hD1
  have hP : va_P (dC, dI) vwCl [(a1, .inr (17, [.int 1, .ref a2, .ref a3, .ref a4, .long 0])), (a2, .inl (T 2, 12, .inr (.inr (.inr (.inr (fun _ => none))))))] H := hP
  have hD : va_D A [(a1, .inr (17, [.int 1, .ref a2, .ref a3, .ref a4, .long 0])), (a2, .inl (T 2, 12, .inr (.inr (.inr (.inr (fun _ => none))))))] := hD
  clear hPc hDc hFc hP1 hD1 hk1 hz1 ht hvm
  refine lv_if_ne (tgt := 33) hx hb dX12_cluster_5 (by decide) (fun c_2 => ?_) (fun c_2 => absurd c_2 (by decide))
  refine lv_iconst (v := 0) hx hb dX12_cluster_33 (by decide) ?_
  refine lv_goto (tgt := 45) hx hb dX12_cluster_34 (by decide) ?_
  have hP9 := hP.sub (ws' := [(a1, .inr (17, [.int 1, .ref a2, .ref a3, .ref a4, .long 0]))]) [0] rfl
  have hD9 := hD.sub (ws' := [(a1, .inr (17, [.int 1, .ref a2, .ref a3, .ref a4, .long 0]))]) [0] (by decide) rfl
  exact W.iret (v := 0) hx hb hr (fun t ht hW => ⟨⟨_, _, rfl, rfl, ⟨rfl, by rw [ht]; exact hP9, hD9⟩⟩, hS.F ht⟩) hS.2.2 dX12_cluster_45
set_option maxHeartbeats 4000000 in
set_option maxRecDepth 100000 in
theorem xcX12_fewest (l : Launch) (hst : l.stackTraces = false) (dC : Nat → ClassId) (dI : Nat → Nat → Nat) (T : Nat → ClassId) (a1 : Nat) (a2 : Nat) (a3 : Nat) (a4 : Nat) (a5 : Nat) (sz : Nat) : Met l yX12_fewest wsX12_fewest ({ frames := 1, cells := 0, slots := 0, locals := 25 } : Room) (va_Pc [.ref a1, .ref a2] (fun U => xB dC dI T [(a1, .inr (17, [.int 0, .ref a3, .ref a4, .ref a5, .long 0])), (a3, .inl (T 2, 12, .inr (.inr (.inr (.inr (fun _ => none))))))] sz U)) (va_Qi (fun (r u : Int32) => r = u) (fun (u : Int32) (t : State) => 0 = u ∧ xE dC dI [(a1, .inr (17, [.int 0, .ref a3, .ref a4, .ref a5, .long 0])), (a3, .inl (T 2, 12, .inr (.inr (.inr (.inr (fun _ => none))))))] (va_A [(a1, .inr (17, [.int 0, .ref a3, .ref a4, .ref a5, .long 0])), (a3, .inl (T 2, 12, .inr (.inr (.inr (.inr (fun _ => none))))))] sz) t) (va_A [(a1, .inr (17, [.int 0, .ref a3, .ref a4, .ref a5, .long 0])), (a3, .inl (T 2, 12, .inr (.inr (.inr (.inr (fun _ => none))))))] sz)) 0 0 (va_A [(a1, .inr (17, [.int 0, .ref a3, .ref a4, .ref a5, .long 0])), (a3, .inl (T 2, 12, .inr (.inr (.inr (.inr (fun _ => none))))))] sz) := by
  refine Met.ofW (cc := cX12_fewest) (maxL := 6) (ret := (some .int)) (by decide +kernel) rfl ?_
  intro p e s m args below meth c s₁ B hml hv
  obtain ⟨rfl, hsz, hP, hK, hD0, hG⟩ := hv
  have hx := B.exec
  have hb := B.bytes
  have hr := B.returns
  have hts := atoms_spec (ws := wsX12_fewest) B.pre
  have hown : s.vm.findClass RX12 = some m.cls := findClass_of_methodNamed B.named
  have hlocks := B.notSynchronized
  subst hsz
  have hD := hD0.self (sz := s.heap.size)
  generalize hAe : va_A [(a1, .inr (17, [.int 0, .ref a3, .ref a4, .ref a5, .long 0])), (a3, .inl (T 2, 12, .inr (.inr (.inr (.inr (fun _ => none))))))] s.heap.size = A at hD hG ⊢
  have hA : ∀ q : Nat, s.heap.size ≤ q → A q := fun q h => by rw [← hAe]; exact Or.inr h
  have hS : va_S A s.heap s.heap [] := va_S.rf
  have hl := lv_entry ([.ref a1, .ref a2]) (n := 6) (Nat.le_of_ble_eq_true rfl)
  rw [lg_entry_eq]
  generalize (lg_sl ([.ref a1, .ref a2]) ++ List.replicate (6 - (lg_sl ([.ref a1, .ref a2])).length) Slot.unset).toArray = ls at hl ⊢
  have hl : lv_has ls 6 [(0, .ref a1), (1, .ref a2)] := hl
  refine lv_aload_n hx hb dX12_fewest_0 rfl (lv_at hl 0 rfl) ?_
  have hPc := hP.sub (ws' := [(a1, .inr (17, [.int 0, .ref a3, .ref a4, .ref a5, .long 0])), (a3, .inl (T 2, 12, .inr (.inr (.inr (.inr (fun _ => none))))))]) [0, 1] rfl
  have hDc := hD.sub (ws' := [(a1, .inr (17, [.int 0, .ref a3, .ref a4, .ref a5, .long 0])), (a3, .inl (T 2, 12, .inr (.inr (.inr (.inr (fun _ => none))))))]) [0, 1] (by decide) rfl
  have hFc := va_free (wc := [(a1, .inr (17, [.int 0, .ref a3, .ref a4, .ref a5, .long 0])), (a3, .inl (T 2, 12, .inr (.inr (.inr (.inr (fun _ => none))))))]) hD hS hA [0, 1] rfl
  refine va_calli (va_runV (As := []) (rest := []) ⟨hx, hb, hml, hown, hts⟩ (xcX12_many l hst dC dI T a1 a3 a4 a5 s.heap.size) (cwV 0 hts gX12_fewest_X12_many rfl rfl rfl (by decide +kernel) ⟨Nat.le_of_ble_eq_true rfl, Nat.le_of_ble_eq_true rfl⟩) ⟨xBlind, va_recv hK hPc (ci := 17) (q0 := 0) rfl rfl, xCall hK hG hS hPc hDc hFc⟩ rfl rfl hl.1 rfl (lv_room (Nat.le_of_ble_eq_true rfl)) dX12_fewest_1 ⟨Nat.le_of_ble_eq_true rfl, Nat.le_of_ble_eq_true rfl⟩) hS (fun q _ h => hFc q h) hFc (fun r_9 u t H locs ht hvm hw hB hz1 hk1 hS => ?_)
  subst hw
  rcases hB with ⟨hr_9, hP1, hD1⟩
  rw [ht] at hP1
  subst hr_9
  obtain ⟨hP, hD⟩ := va_join (wr := []) (w1 := [(a1, .inr (17, [.int 0, .ref a3, .ref a4, .ref a5, .long 0])), (a3, .inl (T 2, 12, .inr (.inr (.inr (.inr (fun _ => none))))))]) hP hD [0, 1] [] rfl rfl (by decide) (by decide) hk1 hFc hP1 hD1
  have hP : va_P (dC, dI) vwCl [(a1, .inr (17, [.int 0, .ref a3, .ref a4, .ref a5, .long 0])), (a3, .inl (T 2, 12, .inr (.inr (.inr (.inr (fun _ => none))))))] H := hP
  have hD : va_D A [(a1, .inr (17, [.int 0, .ref a3, .ref a4, .ref a5, .long 0])), (a3, .inl (T 2, 12, .inr (.inr (.inr (.inr (fun _ => none))))))] := hD
  clear hPc hDc hFc hP1 hD1 hk1 hz1 ht hvm
  refine lv_istore_n (lv' := [(2, .int 0), (0, .ref a1), (1, .ref a2)]) hx hb dX12_fewest_4 rfl hl (by decide) rfl (fun ls hl => ?_)
  refine lv_iconst (v := 0) hx hb dX12_fewest_5 (by decide) ?_
  refine lv_istore_n (lv' := [(3, .int 0), (2, .int 0), (0, .ref a1), (1, .ref a2)]) hx hb dX12_fewest_6 rfl hl (by decide) rfl (fun ls hl => ?_)
  refine xLoop (P := fun i_k_2 H locs ls => va_P (dC, dI) vwCl [(a1, .inr (17, [.int 0, .ref a3, .ref a4, .ref a5, .long 0])), (a3, .inl (T 2, 12, .inr (.inr (.inr (.inr (fun _ => none))))))] H ∧ va_D A [(a1, .inr (17, [.int 0, .ref a3, .ref a4, .ref a5, .long 0])), (a3, .inl (T 2, 12, .inr (.inr (.inr (.inr (fun _ => none))))))] ∧ va_S A s.heap H locs ∧ lv_has ls 6 [(3, .int (nI i_k_2)), (2, .int 0), (0, .ref a1), (1, .ref a2)]) (N := 4096) (fun i_k_2 H locs ls hi_k_2 hI ih_k_2 => ?_) (0) _ _ _ (by omega) ⟨hP, hD, hS, lv_sub hl [0, 1, 2, 3] rfl⟩
  obtain ⟨hP, hD, hS, hl⟩ := hI
  refine lv_iload_n hx hb dX12_fewest_7 rfl (lv_at hl 0 rfl) ?_
  refine lv_sipush (v := 4096) hx hb dX12_fewest_8 (by decide) ?_
  have hz_4 : (nI i_k_2).toInt = ((i_k_2 : Nat) : Int) := nI_toInt (by omega)
  refine lv_icmp_ge (tgt := 91) hx hb dX12_fewest_11 (by decide) (fun c_3 => ?_) (fun c_3 => ?_)
  · have nc_3 : 4096 ≤ (nI i_k_2).toInt := (xi_le (by decide +kernel) rfl).mp c_3
    refine lv_iload_n hx hb dX12_fewest_91 rfl (lv_at hl 1 rfl) ?_
    have hP9 := hP.sub (ws' := [(a1, .inr (17, [.int 0, .ref a3, .ref a4, .ref a5, .long 0])), (a3, .inl (T 2, 12, .inr (.inr (.inr (.inr (fun _ => none))))))]) [0, 1] rfl
    have hD9 := hD.sub (ws' := [(a1, .inr (17, [.int 0, .ref a3, .ref a4, .ref a5, .long 0])), (a3, .inl (T 2, 12, .inr (.inr (.inr (.inr (fun _ => none))))))]) [0, 1] (by decide) rfl
    exact W.iret (v := 0) hx hb hr (fun t ht hW => ⟨⟨_, _, rfl, rfl, ⟨rfl, by rw [ht]; exact hP9, hD9⟩⟩, hS.F ht⟩) hS.2.2 dX12_fewest_92
  · have nc_3 : ¬ (4096 ≤ (nI i_k_2).toInt) := mt (xi_le (by decide +kernel) rfl).mpr c_3
    refine lv_iload_n hx hb dX12_fewest_14 rfl (lv_at hl 0 rfl) ?_
    have hPc := hP.sub (ws' := []) [] rfl
    have hDc := hD.sub (ws' := []) [] (by decide) rfl
    have hFc := va_free (wc := []) hD hS hA [] rfl
    refine va_calli (va_runS (As := [.int (nI i_k_2)]) (rest := []) ⟨hx, hb, hml, hown, hts⟩ (xcJ6_bitCount_0f7a4_v2 l hst dC dI T H.size (nI i_k_2)) (va_cwS 1 hts gX12_fewest_J6_bitCount_0f7a4 rfl rfl rfl (by decide +kernel) ⟨Nat.le_of_ble_eq_true rfl, Nat.le_of_ble_eq_true rfl⟩) ⟨xBlind, xCall hK hG hS hPc hDc hFc⟩ rfl rfl hl.1 rfl (lv_room (Nat.le_of_ble_eq_true rfl)) dX12_fewest_15 ⟨Nat.le_of_ble_eq_true rfl, Nat.le_of_ble_eq_true rfl⟩) hS (fun q _ h => hFc q h) hFc (fun r_9 u t H locs ht hvm hw hB hz1 hk1 hS => ?_)
    subst hw
    rcases hB with ⟨z_5, c_6, hr_9, hP1, hD1⟩
    rw [ht] at hP1
    subst hr_9
    obtain ⟨hP, hD⟩ := va_join (wr := [(a1, .inr (17, [.int 0, .ref a3, .ref a4, .ref a5, .long 0])), (a3, .inl (T 2, 12, .inr (.inr (.inr (.inr (fun _ => none))))))]) (w1 := []) hP hD [] [0, 1] rfl rfl (by decide) (by decide) hk1 hFc hP1 hD1
    have hP : va_P (dC, dI) vwCl [(a1, .inr (17, [.int 0, .ref a3, .ref a4, .ref a5, .long 0])), (a3, .inl (T 2, 12, .inr (.inr (.inr (.inr (fun _ => none))))))] H := hP
    have hD : va_D A [(a1, .inr (17, [.int 0, .ref a3, .ref a4, .ref a5, .long 0])), (a3, .inl (T 2, 12, .inr (.inr (.inr (.inr (fun _ => none))))))] := hD
    clear hPc hDc hFc hP1 hD1 hk1 hz1 ht hvm
    refine lv_iload_n hx hb dX12_fewest_18 rfl (lv_at hl 1 rfl) ?_
    refine lv_icmp_lt (tgt := 25) hx hb dX12_fewest_19 (by decide) (fun c_7 => absurd (show z_5.toInt < 0 from (xi_lt rfl (by decide +kernel)).mp c_7) (by omega)) (fun _ => ?_)
    refine lv_goto (tgt := 85) hx hb dX12_fewest_22 (by decide) ?_
    refine lv_iinc (v := (nI (i_k_2 + 1))) (lv' := [(3, .int (nI (i_k_2 + 1))), (2, .int 0), (0, .ref a1), (1, .ref a2)]) hx hb dX12_fewest_85 hl (k := 0) rfl (nI_1 _) (by decide) rfl (fun ls hl => ?_)
    refine lv_goto (tgt := 7) hx hb dX12_fewest_88 (by decide) ?_
    exact ih_k_2 _ _ _ (by omega) ⟨hP, hD, hS, lv_sub hl [0, 1, 2, 3] rfl⟩
set_option maxHeartbeats 4000000 in
set_option maxRecDepth 100000 in
theorem xcX12_countDiscs (l : Launch) (hst : l.stackTraces = false) (dC : Nat → ClassId) (dI : Nat → Nat → Nat) (T : Nat → ClassId) (a1 : Nat) (a2 : Nat) (a3 : Nat) (a4 : Nat) (sz : Nat) (p1 : Int32) : Met l yX12_countDiscs wsX12_countDiscs ({ frames := 2, cells := 1, slots := 12, locals := 50 } : Room) (va_Pc [.ref a1, .int p1] (fun U => xB dC dI T [(a1, .inr (17, [.int 0, .ref a2, .ref a3, .ref a4, .long 0])), (a2, .inl (T 2, 12, .inr (.inr (.inr (.inr (fun _ => none))))))] sz U)) (va_Qi (fun (r u : Int32) => r = u) (fun (u : Int32) (t : State) => ((((p1.toInt64).toInt < 0) ∨ ((¬ ((p1.toInt64).toInt < 0)) ∧ (((99999) : Int64).toInt < (p1.toInt64).toInt))) ∧ 0 = u ∧ xE dC dI [(a1, .inr (17, [.int 1, .ref a2, .ref a3, .ref a4, .long 0]))] (va_A [(a1, .inr (17, [.int 0, .ref a2, .ref a3, .ref a4, .long 0])), (a2, .inl (T 2, 12, .inr (.inr (.inr (.inr (fun _ => none))))))] sz) t) ∨ (((¬ ((p1.toInt64).toInt < 0)) ∧ (¬ (((99999) : Int64).toInt < (p1.toInt64).toInt))) ∧ 0 = u ∧ xE dC dI [(a1, .inr (17, [.int 0, .ref a2, .ref a3, .ref a4, .long 0]))] (va_A [(a1, .inr (17, [.int 0, .ref a2, .ref a3, .ref a4, .long 0])), (a2, .inl (T 2, 12, .inr (.inr (.inr (.inr (fun _ => none))))))] sz) t)) (va_A [(a1, .inr (17, [.int 0, .ref a2, .ref a3, .ref a4, .long 0])), (a2, .inl (T 2, 12, .inr (.inr (.inr (.inr (fun _ => none))))))] sz)) 1 12 (va_A [(a1, .inr (17, [.int 0, .ref a2, .ref a3, .ref a4, .long 0])), (a2, .inl (T 2, 12, .inr (.inr (.inr (.inr (fun _ => none))))))] sz) := by
  refine Met.ofW (cc := cX12_countDiscs) (maxL := 5) (ret := (some .int)) (by decide +kernel) rfl ?_
  intro p e s m args below meth c s₁ B hml hv
  obtain ⟨rfl, hsz, hP, hK, hD0, hG⟩ := hv
  have hx := B.exec
  have hb := B.bytes
  have hr := B.returns
  have hts := atoms_spec (ws := wsX12_countDiscs) B.pre
  have hown : s.vm.findClass RX12 = some m.cls := findClass_of_methodNamed B.named
  have hlocks := B.notSynchronized
  subst hsz
  have hD := hD0.self (sz := s.heap.size)
  generalize hAe : va_A [(a1, .inr (17, [.int 0, .ref a2, .ref a3, .ref a4, .long 0])), (a2, .inl (T 2, 12, .inr (.inr (.inr (.inr (fun _ => none))))))] s.heap.size = A at hD hG ⊢
  have hA : ∀ q : Nat, s.heap.size ≤ q → A q := fun q h => by rw [← hAe]; exact Or.inr h
  have hS : va_S A s.heap s.heap [] := va_S.rf
  have hl := lv_entry ([.ref a1, .int p1]) (n := 5) (Nat.le_of_ble_eq_true rfl)
  rw [lg_entry_eq]
  generalize (lg_sl ([.ref a1, .int p1]) ++ List.replicate (5 - (lg_sl ([.ref a1, .int p1])).length) Slot.unset).toArray = ls at hl ⊢
  have hl : lv_has ls 5 [(0, .ref a1), (1, .int p1)] := hl
  refine lv_aload_n hx hb dX12_countDiscs_0 rfl (lv_at hl 0 rfl) ?_
  refine lv_iload_n hx hb dX12_countDiscs_1 rfl (lv_at hl 1 rfl) ?_
  refine lv_i2l hx hb dX12_countDiscs_2 rfl ?_
  refine lv_lconst (v := 0) hx hb dX12_countDiscs_3 (by decide) ?_
  refine lv_ldc2 (v := 99999) hx hb hown (hts (.constantLong RX12 214 99999) (by decide +kernel)) dX12_countDiscs_4 ?_
  have hPc := hP.sub (ws' := []) [] rfl
  have hDc := hD.sub (ws' := []) [] (by decide) rfl
  have hFc := va_free (wc := []) hD hS hA [] rfl
  refine va_calli (va_runS (As := [.long p1.toInt64, .long 0, .long 99999]) (rest := [.ref a1]) ⟨hx, hb, hml, hown, hts⟩ (xcX12_isBetween_v4 l hst dC dI T s.heap.size p1.toInt64 99999) (cwS 3 hts gX12_countDiscs_X12_isBetween rfl rfl rfl (by decide +kernel) ⟨Nat.le_of_ble_eq_true rfl, Nat.le_of_ble_eq_true rfl⟩) ⟨xBlind, xCall hK hG hS hPc hDc hFc⟩ rfl rfl hl.1 rfl (lv_room (Nat.le_of_ble_eq_true rfl)) dX12_countDiscs_7 ⟨Nat.le_of_ble_eq_true rfl, Nat.le_of_ble_eq_true rfl⟩) hS (fun q _ h => hFc q h) hFc (fun r_9 u t H locs ht hvm hw hB hz1 hk1 hS => ?_)
  subst hw
  rcases hB with ⟨c_1, hr_9, hP1, hD1⟩ | ⟨c_2, hr_9, hP1, hD1⟩
  · have hz_3 : (p1.toInt64).toInt = p1.toInt := Int32.toInt_toInt64 _
    have hz_4 : ((99999) : Int64).toInt = 99999 := by decide +kernel
    rw [ht] at hP1
    subst hr_9
    obtain ⟨hP, hD⟩ := va_join (wr := [(a1, .inr (17, [.int 0, .ref a2, .ref a3, .ref a4, .long 0])), (a2, .inl (T 2, 12, .inr (.inr (.inr (.inr (fun _ => none))))))]) (w1 := []) hP hD [] [0, 1] rfl rfl (by decide) (by decide) hk1 hFc hP1 hD1
    have hP : va_P (dC, dI) vwCl [(a1, .inr (17, [.int 0, .ref a2, .ref a3, .ref a4, .long 0])), (a2, .inl (T 2, 12, .inr (.inr (.inr (.inr (fun _ => none))))))] H := hP
    have hD : va_D A [(a1, .inr (17, [.int 0, .ref a2, .ref a3, .ref a4, .long 0])), (a2, .inl (T 2, 12, .inr (.inr (.inr (.inr (fun _ => none))))))] := hD
    clear hPc hDc hFc hP1 hD1 hk1 hz1 ht hvm
    refine lv_if_eq (tgt := 17) hx hb dX12_countDiscs_10 (by decide) (fun c_5 => ?_) (fun c_5 => absurd (by decide) c_5)
    refine lv_iconst (v := 1) hx hb dX12_countDiscs_17 (by decide) ?_
    have hPc := hP.sub (ws' := [(a1, .inr (17, [.int 0, .ref a2, .ref a3, .ref a4, .long 0]))]) [0] rfl
    have hDc := hD.sub (ws' := [(a1, .inr (17, [.int 0, .ref a2, .ref a3, .ref a4, .long 0]))]) [0] (by decide) rfl
    have hFc := va_free (wc := [(a1, .inr (17, [.int 0, .ref a2, .ref a3, .ref a4, .long 0]))]) hD hS hA [0] rfl
    refine va_calli (va_runV (As := [.int 1]) (rest := []) ⟨hx, hb, hml, hown, hts⟩ (xcX12_isWrong l hst dC dI T a1 a2 a3 a4 H.size) (cwV 1 hts gX12_countDiscs_X12_isWrong rfl rfl rfl (by decide +kernel) ⟨Nat.le_of_ble_eq_true rfl, Nat.le_of_ble_eq_true rfl⟩) ⟨xBlind, va_recv hK hPc (ci := 17) (q0 := 0) rfl rfl, xCall hK hG hS hPc hDc hFc⟩ rfl rfl hl.1 rfl (lv_room (Nat.le_of_ble_eq_true rfl)) dX12_countDiscs_18 ⟨Nat.le_of_ble_eq_true rfl, Nat.le_of_ble_eq_true rfl⟩) hS (fun q _ h => hFc q h) hFc (fun r_9 u t H locs ht hvm hw hB hz1 hk1 hS => ?_)
    subst hw
    rcases hB with ⟨hr_9, hP1, hD1⟩
    rw [ht] at hP1
    subst hr_9
    obtain ⟨hP, hD⟩ := va_join (wr := [(a2, .inl (T 2, 12, .inr (.inr (.inr (.inr (fun _ => none))))))]) (w1 := [(a1, .inr (17, [.int 1, .ref a2, .ref a3, .ref a4, .long 0]))]) hP hD [0] [1] rfl rfl (by decide) (by decide) hk1 hFc hP1 hD1
    have hP := hP.sub (ws' := [(a1, .inr (17, [.int 1, .ref a2, .ref a3, .ref a4, .long 0])), (a2, .inl (T 2, 12, .inr (.inr (.inr (.inr (fun _ => none))))))]) [1, 0] rfl
    have hD := hD.sub (ws' := [(a1, .inr (17, [.int 1, .ref a2, .ref a3, .ref a4, .long 0])), (a2, .inl (T 2, 12, .inr (.inr (.inr (.inr (fun _ => none))))))]) [1, 0] (by decide) rfl
    clear hPc hDc hFc hP1 hD1 hk1 hz1 ht hvm
    refine lv_if_eq (tgt := 26) hx hb dX12_countDiscs_21 (by decide) (fun c_7 => absurd c_7 (by decide)) (fun c_7 => ?_)
    refine lv_iconst (v := 0) hx hb dX12_countDiscs_24 (by decide) ?_
    have hP9 := hP.sub (ws' := [(a1, .inr (17, [.int 1, .ref a2, .ref a3, .ref a4, .long 0]))]) [0] rfl
    have hD9 := hD.sub (ws' := [(a1, .inr (17, [.int 1, .ref a2, .ref a3, .ref a4, .long 0]))]) [0] (by decide) rfl
    refine W.widen (k := 1) (n := 12) (Nat.le_of_ble_eq_true rfl) (Nat.le_of_ble_eq_true rfl) ?_
    exact W.iret (v := 0) hx hb hr (fun t ht hW => ⟨⟨_, _, rfl, rfl, (Or.inl ⟨c_1, rfl, by rw [ht]; exact hP9, hD9⟩)⟩, hS.F ht⟩) hS.2.2 dX12_countDiscs_25
  · have hz_8 : (p1.toInt64).toInt = p1.toInt := Int32.toInt_toInt64 _
    have hz_9 : ((99999) : Int64).toInt = 99999 := by decide +kernel
    rw [ht] at hP1
    subst hr_9
    obtain ⟨hP, hD⟩ := va_join (wr := [(a1, .inr (17, [.int 0, .ref a2, .ref a3, .ref a4, .long 0])), (a2, .inl (T 2, 12, .inr (.inr (.inr (.inr (fun _ => none))))))]) (w1 := []) hP hD [] [0, 1] rfl rfl (by decide) (by decide) hk1 hFc hP1 hD1
    have hP : va_P (dC, dI) vwCl [(a1, .inr (17, [.int 0, .ref a2, .ref a3, .ref a4, .long 0])), (a2, .inl (T 2, 12, .inr (.inr (.inr (.inr (fun _ => none))))))] H := hP
    have hD : va_D A [(a1, .inr (17, [.int 0, .ref a2, .ref a3, .ref a4, .long 0])), (a2, .inl (T 2, 12, .inr (.inr (.inr (.inr (fun _ => none))))))] := hD
    clear hPc hDc hFc hP1 hD1 hk1 hz1 ht hvm
    refine lv_if_eq (tgt := 17) hx hb dX12_countDiscs_10 (by decide) (fun c_10 => absurd c_10 (by decide)) (fun c_10 => ?_)
    refine lv_iconst (v := 0) hx hb dX12_countDiscs_13 (by decide) ?_
    refine lv_goto (tgt := 18) hx hb dX12_countDiscs_14 (by decide) ?_
    have hPc := hP.sub (ws' := [(a1, .inr (17, [.int 0, .ref a2, .ref a3, .ref a4, .long 0]))]) [0] rfl
    have hDc := hD.sub (ws' := [(a1, .inr (17, [.int 0, .ref a2, .ref a3, .ref a4, .long 0]))]) [0] (by decide) rfl
    have hFc := va_free (wc := [(a1, .inr (17, [.int 0, .ref a2, .ref a3, .ref a4, .long 0]))]) hD hS hA [0] rfl
    refine va_calli (va_runV (As := [.int 0]) (rest := []) ⟨hx, hb, hml, hown, hts⟩ (xcX12_isWrong_v2 l hst dC dI T a1 a2 a3 a4 H.size) (cwV 1 hts gX12_countDiscs_X12_isWrong rfl rfl rfl (by decide +kernel) ⟨Nat.le_of_ble_eq_true rfl, Nat.le_of_ble_eq_true rfl⟩) ⟨xBlind, va_recv hK hPc (ci := 17) (q0 := 0) rfl rfl, xCall hK hG hS hPc hDc hFc⟩ rfl rfl hl.1 rfl (lv_room (Nat.le_of_ble_eq_true rfl)) dX12_countDiscs_18 ⟨Nat.le_of_ble_eq_true rfl, Nat.le_of_ble_eq_true rfl⟩) hS (fun q _ h => hFc q h) hFc (fun r_9 u t H locs ht hvm hw hB hz1 hk1 hS => ?_)
    subst hw
    rcases hB with ⟨hr_9, hP1, hD1⟩
    rw [ht] at hP1
    subst hr_9
    obtain ⟨hP, hD⟩ := va_join (wr := [(a2, .inl (T 2, 12, .inr (.inr (.inr (.inr (fun _ => none))))))]) (w1 := [(a1, .inr (17, [.int 0, .ref a2, .ref a3, .ref a4, .long 0]))]) hP hD [0] [1] rfl rfl (by decide) (by decide) hk1 hFc hP1 hD1
    have hP := hP.sub (ws' := [(a1, .inr (17, [.int 0, .ref a2, .ref a3, .ref a4, .long 0])), (a2, .inl (T 2, 12, .inr (.inr (.inr (.inr (fun _ => none))))))]) [1, 0] rfl
    have hD := hD.sub (ws' := [(a1, .inr (17, [.int 0, .ref a2, .ref a3, .ref a4, .long 0])), (a2, .inl (T 2, 12, .inr (.inr (.inr (.inr (fun _ => none))))))]) [1, 0] (by decide) rfl
    clear hPc hDc hFc hP1 hD1 hk1 hz1 ht hvm
    refine lv_if_eq (tgt := 26) hx hb dX12_countDiscs_21 (by decide) (fun c_12 => ?_) (fun c_12 => absurd (by decide) c_12)
    refine lv_bipush (v := 12) hx hb dX12_countDiscs_26 (by decide) ?_
    refine xNewa (atype := .int) (ty := .int) (N' := 12) (a0 := (12, .inl (fun _ => 0))) 0 rfl hx hb (hts (.arrayClass .int) (by decide +kernel)) rfl hK hP hD hS hA (fun _ => rfl) (by decide) (by decide) (by decide) (Nat.le_of_ble_eq_true rfl) (Nat.le_of_ble_eq_true rfl) dX12_countDiscs_28 (fun q_13 H hP hD hS => ?_)
    have hP : va_P (dC, dI) vwCl [(a1, .inr (17, [.int 0, .ref a2, .ref a3, .ref a4, .long 0])), (a2, .inl (T 2, 12, .inr (.inr (.inr (.inr (fun _ => none)))))), (q_13, .inl (T 0, 12, .inl (fun _ => 0)))] H := hP
    have hD : va_D A [(a1, .inr (17, [.int 0, .ref a2, .ref a3, .ref a4, .long 0])), (a2, .inl (T 2, 12, .inr (.inr (.inr (.inr (fun _ => none)))))), (q_13, .inl (T 0, 12, .inl (fun _ => 0)))] := hD
    refine W.widen (k := 1) (n := 12) (by omega) (by omega) ?_
    refine lv_astore_n (lv' := [(2, .ref q_13), (0, .ref a1), (1, .int p1)]) hx hb dX12_countDiscs_30 rfl hl (by decide) rfl (fun ls hl => ?_)
    refine lv_iconst (v := 0) hx hb dX12_countDiscs_31 (by decide) ?_
    refine lv_istore_n (lv' := [(3, .int 0), (2, .ref q_13), (0, .ref a1), (1, .int p1)]) hx hb dX12_countDiscs_32 rfl hl (by decide) rfl (fun ls hl => ?_)
    refine xLoop (P := fun i_k_14 H locs ls => va_P (dC, dI) vwCl [(a1, .inr (17, [.int 0, .ref a2, .ref a3, .ref a4, .long 0])), (a2, .inl (T 2, 12, .inr (.inr (.inr (.inr (fun _ => none)))))), (q_13, .inl (T 0, 12, .inl (fun _ => 0)))] H ∧ va_D A [(a1, .inr (17, [.int 0, .ref a2, .ref a3, .ref a4, .long 0])), (a2, .inl (T 2, 12, .inr (.inr (.inr (.inr (fun _ => none)))))), (q_13, .inl (T 0, 12, .inl (fun _ => 0)))] ∧ va_S A s.heap H locs ∧ lv_has ls 5 [(3, .int (nI i_k_14)), (2, .ref q_13), (0, .ref a1), (1, .int p1)]) (N := 12) (fun i_k_14 H locs ls hi_k_14 hI ih_k_14 => ?_) (0) _ _ _ (by omega) ⟨hP, hD, hS, lv_sub hl [0, 1, 2, 3] rfl⟩
    obtain ⟨hP, hD, hS, hl⟩ := hI
    refine lv_iload_n hx hb dX12_countDiscs_33 rfl (lv_at hl 0 rfl) ?_
    refine lv_bipush (v := 12) hx hb dX12_countDiscs_34 (by decide) ?_
    have hz_16 : (nI i_k_14).toInt = ((i_k_14 : Nat) : Int) := nI_toInt (by omega)
    refine lv_icmp_ge (tgt := 105) hx hb dX12_countDiscs_36 (by decide) (fun c_15 => ?_) (fun c_15 => ?_)
    · have nc_15 : 12 ≤ (nI i_k_14).toInt := (xi_le (by decide +kernel) rfl).mp c_15
      refine lv_aload_n hx hb dX12_countDiscs_105 rfl (lv_at hl 2 rfl) ?_
      refine lv_aload_n hx hb dX12_countDiscs_106 rfl (lv_at hl 1 rfl) ?_
      have hPc := hP.sub (ws' := [(a1, .inr (17, [.int 0, .ref a2, .ref a3, .ref a4, .long 0])), (a2, .inl (T 2, 12, .inr (.inr (.inr (.inr (fun _ => none))))))]) [0, 1] rfl
      have hDc := hD.sub (ws' := [(a1, .inr (17, [.int 0, .ref a2, .ref a3, .ref a4, .long 0])), (a2, .inl (T 2, 12, .inr (.inr (.inr (.inr (fun _ => none))))))]) [0, 1] (by decide) rfl
      have hFc := va_free (wc := [(a1, .inr (17, [.int 0, .ref a2, .ref a3, .ref a4, .long 0])), (a2, .inl (T 2, 12, .inr (.inr (.inr (.inr (fun _ => none))))))]) hD hS hA [0, 1] rfl
      refine va_calli (va_runV (As := [.ref q_13]) (rest := []) ⟨hx, hb, hml, hown, hts⟩ (xcX12_fewest l hst dC dI T a1 q_13 a2 a3 a4 H.size) (cwV 1 hts gX12_countDiscs_X12_fewest rfl rfl rfl (by decide +kernel) ⟨Nat.le_of_ble_eq_true rfl, Nat.le_of_ble_eq_true rfl⟩) ⟨xBlind, va_recv hK hPc (ci := 17) (q0 := 0) rfl rfl, xCall hK hG hS hPc hDc hFc⟩ rfl rfl hl.1 rfl (lv_room (Nat.le_of_ble_eq_true rfl)) dX12_countDiscs_107 ⟨Nat.le_of_ble_eq_true rfl, Nat.le_of_ble_eq_true rfl⟩) hS (fun q _ h => hFc q h) hFc (fun r_9 u t H locs ht hvm hw hB hz1 hk1 hS => ?_)
      subst hw
      rcases hB with ⟨hr_9, hP1, hD1⟩
      rw [ht] at hP1
      subst hr_9
      obtain ⟨hP, hD⟩ := va_join (wr := [(q_13, .inl (T 0, 12, .inl (fun _ => 0)))]) (w1 := [(a1, .inr (17, [.int 0, .ref a2, .ref a3, .ref a4, .long 0])), (a2, .inl (T 2, 12, .inr (.inr (.inr (.inr (fun _ => none))))))]) hP hD [0, 1] [2] rfl rfl (by decide) (by decide) hk1 hFc hP1 hD1
      have hP := hP.sub (ws' := [(a1, .inr (17, [.int 0, .ref a2, .ref a3, .ref a4, .long 0])), (a2, .inl (T 2, 12, .inr (.inr (.inr (.inr (fun _ => none)))))), (q_13, .inl (T 0, 12, .inl (fun _ => 0)))]) [1, 2, 0] rfl
      have hD := hD.sub (ws' := [(a1, .inr (17, [.int 0, .ref a2, .ref a3, .ref a4, .long 0])), (a2, .inl (T 2, 12, .inr (.inr (.inr (.inr (fun _ => none)))))), (q_13, .inl (T 0, 12, .inl (fun _ => 0)))]) [1, 2, 0] (by decide) rfl
      clear hPc hDc hFc hP1 hD1 hk1 hz1 ht hvm
      have hP9 := hP.sub (ws' := [(a1, .inr (17, [.int 0, .ref a2, .ref a3, .ref a4, .long 0]))]) [0] rfl
      have hD9 := hD.sub (ws' := [(a1, .inr (17, [.int 0, .ref a2, .ref a3, .ref a4, .long 0]))]) [0] (by decide) rfl
      exact W.iret (v := 0) hx hb hr (fun t ht hW => ⟨⟨_, _, rfl, rfl, (Or.inr (⟨c_2, rfl, by rw [ht]; exact hP9, hD9⟩))⟩, hS.F ht⟩) hS.2.2 dX12_countDiscs_110
    · have nc_15 : ¬ (12 ≤ (nI i_k_14).toInt) := mt (xi_le (by decide +kernel) rfl).mpr c_15
      refine lv_iconst (v := 0) hx hb dX12_countDiscs_39 (by decide) ?_
      refine lv_istore (lv' := [(4, .int 0), (3, .int (nI i_k_14)), (2, .ref q_13), (0, .ref a1), (1, .int p1)]) hx hb dX12_countDiscs_40 hl (by decide) rfl (fun ls hl => ?_)
      refine xLoop (P := fun i_k_18 H locs ls => va_P (dC, dI) vwCl [(a1, .inr (17, [.int 0, .ref a2, .ref a3, .ref a4, .long 0])), (a2, .inl (T 2, 12, .inr (.inr (.inr (.inr (fun _ => none)))))), (q_13, .inl (T 0, 12, .inl (fun _ => 0)))] H ∧ va_D A [(a1, .inr (17, [.int 0, .ref a2, .ref a3, .ref a4, .long 0])), (a2, .inl (T 2, 12, .inr (.inr (.inr (.inr (fun _ => none)))))), (q_13, .inl (T 0, 12, .inl (fun _ => 0)))] ∧ va_S A s.heap H locs ∧ lv_has ls 5 [(4, .int (nI i_k_18)), (3, .int (nI i_k_14)), (2, .ref q_13), (0, .ref a1), (1, .int p1)]) (N := 12) (fun i_k_18 H locs ls hi_k_18 hI ih_k_18 => ?_) (0) _ _ _ (by omega) ⟨hP, hD, hS, lv_sub hl [0, 1, 2, 3, 4] rfl⟩
      obtain ⟨hP, hD, hS, hl⟩ := hI
      refine lv_iload hx hb dX12_countDiscs_42 (lv_at hl 0 rfl) ?_
      refine lv_bipush (v := 12) hx hb dX12_countDiscs_44 (by decide) ?_
      have hz_20 : (nI i_k_18).toInt = ((i_k_18 : Nat) : Int) := nI_toInt (by omega)
      refine lv_icmp_ge (tgt := 99) hx hb dX12_countDiscs_46 (by decide) (fun c_19 => ?_) (fun c_19 => ?_)
      · have nc_19 : 12 ≤ (nI i_k_18).toInt := (xi_le (by decide +kernel) rfl).mp c_19
        refine lv_iinc (v := (nI (i_k_14 + 1))) (lv' := [(3, .int (nI (i_k_14 + 1))), (4, .int (nI i_k_18)), (2, .ref q_13), (0, .ref a1), (1, .int p1)]) hx hb dX12_countDiscs_99 hl (k := 1) rfl (nI_1 _) (by decide) rfl (fun ls hl => ?_)
        refine lv_goto (tgt := 33) hx hb dX12_countDiscs_102 (by decide) ?_
        exact ih_k_14 _ _ _ (by omega) ⟨hP, hD, hS, lv_sub hl [0, 2, 3, 4] rfl⟩
      · have nc_19 : ¬ (12 ≤ (nI i_k_18).toInt) := mt (xi_le (by decide +kernel) rfl).mpr c_19
        refine lv_aload_n hx hb dX12_countDiscs_49 rfl (lv_at hl 2 rfl) ?_
        refine lv_iload_n hx hb dX12_countDiscs_50 rfl (lv_at hl 1 rfl) ?_
        refine lv_dup2_11 hx hb dX12_countDiscs_51 rfl rfl ?_
        refine va_iald hx hb hK hP 2 0 rfl rfl (vp_in_nI (by omega) (by decide)) dX12_countDiscs_52 ?_
        refine lv_topi (fun f_21 ef_21 => ?_)
        obtain rfl : f_21 = 0 := ef_21
        refine lv_aload_n hx hb dX12_countDiscs_53 rfl (lv_at hl 3 rfl) ?_
        refine lv_iload_n hx hb dX12_countDiscs_54 rfl (lv_at hl 1 rfl) ?_
        have hPc := hP.sub (ws' := [(a1, .inr (17, [.int 0, .ref a2, .ref a3, .ref a4, .long 0])), (a2, .inl (T 2, 12, .inr (.inr (.inr (.inr (fun _ => none))))))]) [0, 1] rfl
        have hDc := hD.sub (ws' := [(a1, .inr (17, [.int 0, .ref a2, .ref a3, .ref a4, .long 0])), (a2, .inl (T 2, 12, .inr (.inr (.inr (.inr (fun _ => none))))))]) [0, 1] (by decide) rfl
        have hFc := va_free (wc := [(a1, .inr (17, [.int 0, .ref a2, .ref a3, .ref a4, .long 0])), (a2, .inl (T 2, 12, .inr (.inr (.inr (.inr (fun _ => none))))))]) hD hS hA [0, 1] rfl
        refine va_calli (va_runV (As := [.int (nI i_k_14)]) (rest := [.int 0, .int (nI i_k_14), .ref q_13]) ⟨hx, hb, hml, hown, hts⟩ (xcX12_isThere l hst dC dI T a1 a2 a3 a4 H.size (nI i_k_14)) (cwV 1 hts gX12_countDiscs_X12_isThere rfl rfl rfl (by decide +kernel) ⟨Nat.le_of_ble_eq_true rfl, Nat.le_of_ble_eq_true rfl⟩) ⟨xBlind, va_recv hK hPc (ci := 17) (q0 := 0) rfl rfl, xCall hK hG hS hPc hDc hFc⟩ rfl rfl hl.1 rfl (lv_room (Nat.le_of_ble_eq_true rfl)) dX12_countDiscs_55 ⟨Nat.le_of_ble_eq_true rfl, Nat.le_of_ble_eq_true rfl⟩) hS (fun q _ h => hFc q h) hFc (fun r_9 u t H locs ht hvm hw hB hz1 hk1 hS => ?_)
        subst hw
        rcases hB with ⟨hr_9, hP1, hD1⟩
        rw [ht] at hP1
        subst hr_9
        obtain ⟨hP, hD⟩ := va_join (wr := [(q_13, .inl (T 0, 12, .inl (fun _ => 0)))]) (w1 := [(a1, .inr (17, [.int 0, .ref a2, .ref a3, .ref a4, .long 0])), (a2, .inl (T 2, 12, .inr (.inr (.inr (.inr (fun _ => none))))))]) hP hD [0, 1] [2] rfl rfl (by decide) (by decide) hk1 hFc hP1 hD1
        have hP := hP.sub (ws' := [(a1, .inr (17, [.int 0, .ref a2, .ref a3, .ref a4, .long 0])), (a2, .inl (T 2, 12, .inr (.inr (.inr (.inr (fun _ => none)))))), (q_13, .inl (T 0, 12, .inl (fun _ => 0)))]) [1, 2, 0] rfl
        have hD := hD.sub (ws' := [(a1, .inr (17, [.int 0, .ref a2, .ref a3, .ref a4, .long 0])), (a2, .inl (T 2, 12, .inr (.inr (.inr (.inr (fun _ => none)))))), (q_13, .inl (T 0, 12, .inl (fun _ => 0)))]) [1, 2, 0] (by decide) rfl
        clear hPc hDc hFc hP1 hD1 hk1 hz1 ht hvm
        refine lv_if_eq (tgt := 90) hx hb dX12_countDiscs_58 (by decide) (fun c_23 => ?_) (fun c_23 => absurd (by decide) c_23)
        refine lv_iconst (v := 0) hx hb dX12_countDiscs_90 (by decide) ?_
        refine lv_ior hx hb dX12_countDiscs_91 ?_
        refine lv_topi (fun f_24 ef_24 => ?_)
        obtain rfl : f_24 = 0 := ef_24.trans (by decide)
        refine va_iast hx hb hK hP hD hS 2 0 rfl rfl (vp_in_nI (by omega) (by decide)) dX12_countDiscs_92 (fun H locs hP hD hS => ?_)
        have hP : va_P (dC, dI) vwCl [(a1, .inr (17, [.int 0, .ref a2, .ref a3, .ref a4, .long 0])), (a2, .inl (T 2, 12, .inr (.inr (.inr (.inr (fun _ => none)))))), (q_13, .inl (T 0, 12, .inl (fun _ => 0)))] H := by have h9 : va_P (dC, dI) vwCl [(a1, .inr (17, [.int 0, .ref a2, .ref a3, .ref a4, .long 0])), (a2, .inl (T 2, 12, .inr (.inr (.inr (.inr (fun _ => none)))))), (q_13, .inl (T 0, 12, .inl (upd (fun _ => 0) ((nI i_k_14) : Int32).toNatClampNeg 0)))] H := hP; rw [xz] at h9; exact h9
        have hD : va_D A [(a1, .inr (17, [.int 0, .ref a2, .ref a3, .ref a4, .long 0])), (a2, .inl (T 2, 12, .inr (.inr (.inr (.inr (fun _ => none)))))), (q_13, .inl (T 0, 12, .inl (fun _ => 0)))] := by have h9 : va_D A [(a1, .inr (17, [.int 0, .ref a2, .ref a3, .ref a4, .long 0])), (a2, .inl (T 2, 12, .inr (.inr (.inr (.inr (fun _ => none)))))), (q_13, .inl (T 0, 12, .inl (upd (fun _ => 0) ((nI i_k_14) : Int32).toNatClampNeg 0)))] := hD; rw [xz] at h9; exact h9
        refine lv_iinc (v := (nI (i_k_18 + 1))) (lv' := [(4, .int (nI (i_k_18 + 1))), (3, .int (nI i_k_14)), (2, .ref q_13), (0, .ref a1), (1, .int p1)]) hx hb dX12_countDiscs_93 hl (k := 0) rfl (nI_1 _) (by decide) rfl (fun ls hl => ?_)
        refine lv_goto (tgt := 42) hx hb dX12_countDiscs_96 (by decide) ?_
        exact ih_k_18 _ _ _ (by omega) ⟨hP, hD, hS, lv_sub hl [0, 1, 2, 3, 4] rfl⟩
set_option maxHeartbeats 4000000 in
set_option maxRecDepth 100000 in
theorem xcX12_isEdge (l : Launch) (hst : l.stackTraces = false) (dC : Nat → ClassId) (dI : Nat → Nat → Nat) (T : Nat → ClassId) (a1 : Nat) (a2 : Nat) (a3 : Nat) (a4 : Nat) (sz : Nat) (p1 : Int32) (p2 : Int32) : Met l yX12_isEdge wsX12_isEdge ({ frames := 2, cells := 0, slots := 0, locals := 46 } : Room) (va_Pc [.ref a1, .int p1, .int p2] (fun U => xB dC dI T [(a1, .inr (17, [.int 0, .ref a2, .ref a3, .ref a4, .long 0])), (a2, .inl (T 2, 12, .inr (.inr (.inr (.inr (fun _ => none))))))] sz U)) (va_Qi (fun (r u : Int32) => r = u) (fun (u : Int32) (t : State) => 0 = u ∧ xE dC dI [(a1, .inr (17, [.int 0, .ref a2, .ref a3, .ref a4, .long 0])), (a2, .inl (T 2, 12, .inr (.inr (.inr (.inr (fun _ => none))))))] (va_A [(a1, .inr (17, [.int 0, .ref a2, .ref a3, .ref a4, .long 0])), (a2, .inl (T 2, 12, .inr (.inr (.inr (.inr (fun _ => none))))))] sz) t) (va_A [(a1, .inr (17, [.int 0, .ref a2, .ref a3, .ref a4, .long 0])), (a2, .inl (T 2, 12, .inr (.inr (.inr (.inr (fun _ => none))))))] sz)) 0 0 (va_A [(a1, .inr (17, [.int 0, .ref a2, .ref a3, .ref a4, .long 0])), (a2, .inl (T 2, 12, .inr (.inr (.inr (.inr (fun _ => none))))))] sz) := by
  refine Met.ofW (cc := cX12_isEdge) (maxL := 5) (ret := (some .boolean)) (by decide +kernel) rfl ?_
  intro p e s m args below meth c s₁ B hml hv
  obtain ⟨rfl, hsz, hP, hK, hD0, hG⟩ := hv
  have hx := B.exec
  have hb := B.bytes
  have hr := B.returns
  have hts := atoms_spec (ws := wsX12_isEdge) B.pre
  have hown : s.vm.findClass RX12 = some m.cls := findClass_of_methodNamed B.named
  have hlocks := B.notSynchronized
  subst hsz
  have hD := hD0.self (sz := s.heap.size)
  generalize hAe : va_A [(a1, .inr (17, [.int 0, .ref a2, .ref a3, .ref a4, .long 0])), (a2, .inl (T 2, 12, .inr (.inr (.inr (.inr (fun _ => none))))))] s.heap.size = A at hD hG ⊢
  have hA : ∀ q : Nat, s.heap.size ≤ q → A q := fun q h => by rw [← hAe]; exact Or.inr h
  have hS : va_S A s.heap s.heap [] := va_S.rf
  have hl := lv_entry ([.ref a1, .int p1, .int p2]) (n := 5) (Nat.le_of_ble_eq_true rfl)
  rw [lg_entry_eq]
  generalize (lg_sl ([.ref a1, .int p1, .int p2]) ++ List.replicate (5 - (lg_sl ([.ref a1, .int p1, .int p2])).length) Slot.unset).toArray = ls at hl ⊢
  have hl : lv_has ls 5 [(0, .ref a1), (1, .int p1), (2, .int p2)] := hl
  refine lv_iconst (v := 0) hx hb dX12_isEdge_0 (by decide) ?_
  refine lv_istore_n (lv' := [(3, .int 0), (0, .ref a1), (1, .int p1), (2, .int p2)]) hx hb dX12_isEdge_1 rfl hl (by decide) rfl (fun ls hl => ?_)
  refine lv_iconst (v := 0) hx hb dX12_isEdge_2 (by decide) ?_
  refine lv_istore (lv' := [(4, .int 0), (3, .int 0), (0, .ref a1), (1, .int p1), (2, .int p2)]) hx hb dX12_isEdge_3 hl (by decide) rfl (fun ls hl => ?_)
  refine xLoop (P := fun i_k_1 H locs ls => va_P (dC, dI) vwCl [(a1, .inr (17, [.int 0, .ref a2, .ref a3, .ref a4, .long 0])), (a2, .inl (T 2, 12, .inr (.inr (.inr (.inr (fun _ => none))))))] H ∧ va_D A [(a1, .inr (17, [.int 0, .ref a2, .ref a3, .ref a4, .long 0])), (a2, .inl (T 2, 12, .inr (.inr (.inr (.inr (fun _ => none))))))] ∧ va_S A s.heap H locs ∧ lv_has ls 5 [(4, .int (nI i_k_1)), (3, .int 0), (0, .ref a1), (1, .int p1), (2, .int p2)]) (N := 12) (fun i_k_1 H locs ls hi_k_1 hI ih_k_1 => ?_) (0) _ _ _ (by omega) ⟨hP, hD, hS, lv_sub hl [0, 1, 2, 3, 4] rfl⟩
  obtain ⟨hP, hD, hS, hl⟩ := hI
  refine lv_iload hx hb dX12_isEdge_5 (lv_at hl 0 rfl) ?_
  refine lv_bipush (v := 12) hx hb dX12_isEdge_7 (by decide) ?_
  have hz_3 : (nI i_k_1).toInt = ((i_k_1 : Nat) : Int) := nI_toInt (by omega)
  refine lv_icmp_ge (tgt := 64) hx hb dX12_isEdge_9 (by decide) (fun c_2 => ?_) (fun c_2 => ?_)
  · have nc_2 : 12 ≤ (nI i_k_1).toInt := (xi_le (by decide +kernel) rfl).mp c_2
    refine lv_iload_n hx hb dX12_isEdge_64 rfl (lv_at hl 1 rfl) ?_
    have hP9 := hP.sub (ws' := [(a1, .inr (17, [.int 0, .ref a2, .ref a3, .ref a4, .long 0])), (a2, .inl (T 2, 12, .inr (.inr (.inr (.inr (fun _ => none))))))]) [0, 1] rfl
    have hD9 := hD.sub (ws' := [(a1, .inr (17, [.int 0, .ref a2, .ref a3, .ref a4, .long 0])), (a2, .inl (T 2, 12, .inr (.inr (.inr (.inr (fun _ => none))))))]) [0, 1] (by decide) rfl
    exact W.zret (v := 0) hx hb hr (by decide) (fun t ht hW => ⟨⟨_, _, rfl, rfl, ⟨rfl, by rw [ht]; exact hP9, hD9⟩⟩, hS.F ht⟩) hS.2.2 dX12_isEdge_65
  · have nc_2 : ¬ (12 ≤ (nI i_k_1).toInt) := mt (xi_le (by decide +kernel) rfl).mpr c_2
    refine lv_iload_n hx hb dX12_isEdge_12 rfl (lv_at hl 1 rfl) ?_
    refine lv_if_ne (tgt := 64) hx hb dX12_isEdge_13 (by decide) (fun c_4 => absurd c_4 (by decide)) (fun c_4 => ?_)
    refine lv_aload_n hx hb dX12_isEdge_16 rfl (lv_at hl 2 rfl) ?_
    refine lv_iload_n hx hb dX12_isEdge_17 rfl (lv_at hl 3 rfl) ?_
    have hPc := hP.sub (ws' := [(a1, .inr (17, [.int 0, .ref a2, .ref a3, .ref a4, .long 0])), (a2, .inl (T 2, 12, .inr (.inr (.inr (.inr (fun _ => none))))))]) [0, 1] rfl
    have hDc := hD.sub (ws' := [(a1, .inr (17, [.int 0, .ref a2, .ref a3, .ref a4, .long 0])), (a2, .inl (T 2, 12, .inr (.inr (.inr (.inr (fun _ => none))))))]) [0, 1] (by decide) rfl
    have hFc := va_free (wc := [(a1, .inr (17, [.int 0, .ref a2, .ref a3, .ref a4, .long 0])), (a2, .inl (T 2, 12, .inr (.inr (.inr (.inr (fun _ => none))))))]) hD hS hA [0, 1] rfl
    refine va_calli (va_runV (As := [.int p1]) (rest := []) ⟨hx, hb, hml, hown, hts⟩ (xcX12_isThere l hst dC dI T a1 a2 a3 a4 H.size p1) (cwV 1 hts gX12_isEdge_X12_isThere rfl rfl rfl (by decide +kernel) ⟨Nat.le_of_ble_eq_true rfl, Nat.le_of_ble_eq_true rfl⟩) ⟨xBlind, va_recv hK hPc (ci := 17) (q0 := 0) rfl rfl, xCall hK hG hS hPc hDc hFc⟩ rfl rfl hl.1 rfl (lv_room (Nat.le_of_ble_eq_true rfl)) dX12_isEdge_18 ⟨Nat.le_of_ble_eq_true rfl, Nat.le_of_ble_eq_true rfl⟩) hS (fun q _ h => hFc q h) hFc (fun r_9 u t H locs ht hvm hw hB hz1 hk1 hS => ?_)
    subst hw
    rcases hB with ⟨hr_9, hP1, hD1⟩
    rw [ht] at hP1
    subst hr_9
    obtain ⟨hP, hD⟩ := va_join (wr := []) (w1 := [(a1, .inr (17, [.int 0, .ref a2, .ref a3, .ref a4, .long 0])), (a2, .inl (T 2, 12, .inr (.inr (.inr (.inr (fun _ => none))))))]) hP hD [0, 1] [] rfl rfl (by decide) (by decide) hk1 hFc hP1 hD1
    have hP : va_P (dC, dI) vwCl [(a1, .inr (17, [.int 0, .ref a2, .ref a3, .ref a4, .long 0])), (a2, .inl (T 2, 12, .inr (.inr (.inr (.inr (fun _ => none))))))] H := hP
    have hD : va_D A [(a1, .inr (17, [.int 0, .ref a2, .ref a3, .ref a4, .long 0])), (a2, .inl (T 2, 12, .inr (.inr (.inr (.inr (fun _ => none))))))] := hD
    clear hPc hDc hFc hP1 hD1 hk1 hz1 ht hvm
    refine lv_if_eq (tgt := 56) hx hb dX12_isEdge_21 (by decide) (fun c_6 => ?_) (fun c_6 => absurd (by decide) c_6)
    refine lv_iconst (v := 0) hx hb dX12_isEdge_56 (by decide) ?_
    refine lv_istore_n (lv' := [(3, .int 0), (4, .int (nI i_k_1)), (0, .ref a1), (1, .int p1), (2, .int p2)]) hx hb dX12_isEdge_57 rfl hl (by decide) rfl (fun ls hl => ?_)
    refine lv_iinc (v := (nI (i_k_1 + 1))) (lv' := [(4, .int (nI (i_k_1 + 1))), (3, .int 0), (0, .ref a1), (1, .int p1), (2, .int p2)]) hx hb dX12_isEdge_58 hl (k := 1) rfl (nI_1 _) (by decide) rfl (fun ls hl => ?_)
    refine lv_goto (tgt := 5) hx hb dX12_isEdge_61 (by decide) ?_
    exact ih_k_1 _ _ _ (by omega) ⟨hP, hD, hS, lv_sub hl [0, 1, 2, 3, 4] rfl⟩
set_option maxHeartbeats 4000000 in
set_option maxRecDepth 100000 in
theorem xcX12_edges (l : Launch) (hst : l.stackTraces = false) (dC : Nat → ClassId) (dI : Nat → Nat → Nat) (T : Nat → ClassId) (a1 : Nat) (a2 : Nat) (a3 : Nat) (a4 : Nat) (sz : Nat) : Met l yX12_edges wsX12_edges ({ frames := 3, cells := 13, slots := 156, locals := 70 } : Room) (va_Pc [.ref a1] (fun U => xB dC dI T [(a1, .inr (17, [.int 0, .ref a2, .ref a3, .ref a4, .long 0])), (a2, .inl (T 2, 12, .inr (.inr (.inr (.inr (fun _ => none))))))] sz U)) (va_Qr (fun _ : Unit => True) (fun (_ : Unit) (ra : Nat) (t : State) => ∃ (q_1 : Nat) (r_2 : Nat → Nat), q_1 = ra ∧ xE dC dI [(a1, .inr (17, [.int 0, .ref a2, .ref a3, .ref a4, .long 0])), (a2, .inl (T 2, 12, .inr (.inr (.inr (.inr (fun _ => none)))))), (q_1, .inl (T 3, 12, .inr (.inr (.inr (.inr (fun i => if i < 12 then some (r_2 i) else none)))))), ((r_2 0), .inl (T 1, 12, .inl (fun _ => 0))), ((r_2 1), .inl (T 1, 12, .inl (fun _ => 0))), ((r_2 2), .inl (T 1, 12, .inl (fun _ => 0))), ((r_2 3), .inl (T 1, 12, .inl (fun _ => 0))), ((r_2 4), .inl (T 1, 12, .inl (fun _ => 0))), ((r_2 5), .inl (T 1, 12, .inl (fun _ => 0))), ((r_2 6), .inl (T 1, 12, .inl (fun _ => 0))), ((r_2 7), .inl (T 1, 12, .inl (fun _ => 0))), ((r_2 8), .inl (T 1, 12, .inl (fun _ => 0))), ((r_2 9), .inl (T 1, 12, .inl (fun _ => 0))), ((r_2 10), .inl (T 1, 12, .inl (fun _ => 0))), ((r_2 11), .inl (T 1, 12, .inl (fun _ => 0)))] (va_A [(a1, .inr (17, [.int 0, .ref a2, .ref a3, .ref a4, .long 0])), (a2, .inl (T 2, 12, .inr (.inr (.inr (.inr (fun _ => none))))))] sz) t) (va_A [(a1, .inr (17, [.int 0, .ref a2, .ref a3, .ref a4, .long 0])), (a2, .inl (T 2, 12, .inr (.inr (.inr (.inr (fun _ => none))))))] sz)) 13 156 (va_A [(a1, .inr (17, [.int 0, .ref a2, .ref a3, .ref a4, .long 0])), (a2, .inl (T 2, 12, .inr (.inr (.inr (.inr (fun _ => none))))))] sz) := by
  refine Met.ofW (cc := cX12_edges) (maxL := 4) (ret := (some (.array (.array .boolean)))) (by decide +kernel) rfl ?_
  intro p e s m args below meth c s₁ B hml hv
  obtain ⟨rfl, hsz, hP, hK, hD0, hG⟩ := hv
  have hx := B.exec
  have hb := B.bytes
  have hr := B.returns
  have hts := atoms_spec (ws := wsX12_edges) B.pre
  have hown : s.vm.findClass RX12 = some m.cls := findClass_of_methodNamed B.named
  have hlocks := B.notSynchronized
  subst hsz
  have hD := hD0.self (sz := s.heap.size)
  generalize hAe : va_A [(a1, .inr (17, [.int 0, .ref a2, .ref a3, .ref a4, .long 0])), (a2, .inl (T 2, 12, .inr (.inr (.inr (.inr (fun _ => none))))))] s.heap.size = A at hD hG ⊢
  have hA : ∀ q : Nat, s.heap.size ≤ q → A q := fun q h => by rw [← hAe]; exact Or.inr h
  have hS : va_S A s.heap s.heap [] := va_S.rf
  have hl := lv_entry ([.ref a1]) (n := 4) (Nat.le_of_ble_eq_true rfl)
  rw [lg_entry_eq]
  generalize (lg_sl ([.ref a1]) ++ List.replicate (4 - (lg_sl ([.ref a1])).length) Slot.unset).toArray = ls at hl ⊢
  have hl : lv_has ls 4 [(0, .ref a1)] := hl
  refine lv_bipush (v := 12) hx hb dX12_edges_0 (by decide) ?_
  refine lv_bipush (v := 12) hx hb dX12_edges_2 (by decide) ?_
  refine xMna (ty := .boolean) (cT := T 3) (cy := T 1) (N' := 12) (K' := 12) (z := (12, .inl (fun _ => 0))) 3 rfl hx hb hown (by have h9 := hts (.classLink RX12 164 "[[Z") (by decide +kernel); rwa [show "[" ++ (FieldType.array .boolean).toString = "[[Z" from by decide +kernel]) hG.2.2.2.2.2.2.2.2.2.1 (hts (.arrayClass .boolean) (by decide +kernel)) (hK.2 1 _ rfl).2 hK hP hD hS hA (by decide) (by decide) (by decide) (by decide) (Nat.le_of_ble_eq_true rfl) (Nat.le_of_ble_eq_true rfl) (Nat.le_of_ble_eq_true rfl) (by decide) (by decide) (Nat.le_of_ble_eq_true rfl) (Nat.le_of_ble_eq_true rfl) (fun c => xinZ c 12) dX12_edges_4 (fun q_1 r_2 H hP hD hS => ?_)
  have hP : va_P (dC, dI) vwCl [(a1, .inr (17, [.int 0, .ref a2, .ref a3, .ref a4, .long 0])), (a2, .inl (T 2, 12, .inr (.inr (.inr (.inr (fun _ => none)))))), (q_1, .inl (T 3, 12, .inr (.inr (.inr (.inr (fun i => if i < 12 then some (r_2 i) else none)))))), ((r_2 0), .inl (T 1, 12, .inl (fun _ => 0))), ((r_2 1), .inl (T 1, 12, .inl (fun _ => 0))), ((r_2 2), .inl (T 1, 12, .inl (fun _ => 0))), ((r_2 3), .inl (T 1, 12, .inl (fun _ => 0))), ((r_2 4), .inl (T 1, 12, .inl (fun _ => 0))), ((r_2 5), .inl (T 1, 12, .inl (fun _ => 0))), ((r_2 6), .inl (T 1, 12, .inl (fun _ => 0))), ((r_2 7), .inl (T 1, 12, .inl (fun _ => 0))), ((r_2 8), .inl (T 1, 12, .inl (fun _ => 0))), ((r_2 9), .inl (T 1, 12, .inl (fun _ => 0))), ((r_2 10), .inl (T 1, 12, .inl (fun _ => 0))), ((r_2 11), .inl (T 1, 12, .inl (fun _ => 0)))] H := hP
  have hD : va_D A [(a1, .inr (17, [.int 0, .ref a2, .ref a3, .ref a4, .long 0])), (a2, .inl (T 2, 12, .inr (.inr (.inr (.inr (fun _ => none)))))), (q_1, .inl (T 3, 12, .inr (.inr (.inr (.inr (fun i => if i < 12 then some (r_2 i) else none)))))), ((r_2 0), .inl (T 1, 12, .inl (fun _ => 0))), ((r_2 1), .inl (T 1, 12, .inl (fun _ => 0))), ((r_2 2), .inl (T 1, 12, .inl (fun _ => 0))), ((r_2 3), .inl (T 1, 12, .inl (fun _ => 0))), ((r_2 4), .inl (T 1, 12, .inl (fun _ => 0))), ((r_2 5), .inl (T 1, 12, .inl (fun _ => 0))), ((r_2 6), .inl (T 1, 12, .inl (fun _ => 0))), ((r_2 7), .inl (T 1, 12, .inl (fun _ => 0))), ((r_2 8), .inl (T 1, 12, .inl (fun _ => 0))), ((r_2 9), .inl (T 1, 12, .inl (fun _ => 0))), ((r_2 10), .inl (T 1, 12, .inl (fun _ => 0))), ((r_2 11), .inl (T 1, 12, .inl (fun _ => 0)))] := hD
  refine W.widen (k := 13) (n := 156) (by omega) (by omega) ?_
  refine lv_astore_n (lv' := [(1, .ref q_1), (0, .ref a1)]) hx hb dX12_edges_8 rfl hl (by decide) rfl (fun ls hl => ?_)
  refine lv_iconst (v := 0) hx hb dX12_edges_9 (by decide) ?_
  refine lv_istore_n (lv' := [(2, .int 0), (1, .ref q_1), (0, .ref a1)]) hx hb dX12_edges_10 rfl hl (by decide) rfl (fun ls hl => ?_)
  refine xLoop (P := fun i_k_3 H locs ls => va_P (dC, dI) vwCl [(a1, .inr (17, [.int 0, .ref a2, .ref a3, .ref a4, .long 0])), (a2, .inl (T 2, 12, .inr (.inr (.inr (.inr (fun _ => none)))))), (q_1, .inl (T 3, 12, .inr (.inr (.inr (.inr (fun i => if i < 12 then some (r_2 i) else none)))))), ((r_2 0), .inl (T 1, 12, .inl (fun _ => 0))), ((r_2 1), .inl (T 1, 12, .inl (fun _ => 0))), ((r_2 2), .inl (T 1, 12, .inl (fun _ => 0))), ((r_2 3), .inl (T 1, 12, .inl (fun _ => 0))), ((r_2 4), .inl (T 1, 12, .inl (fun _ => 0))), ((r_2 5), .inl (T 1, 12, .inl (fun _ => 0))), ((r_2 6), .inl (T 1, 12, .inl (fun _ => 0))), ((r_2 7), .inl (T 1, 12, .inl (fun _ => 0))), ((r_2 8), .inl (T 1, 12, .inl (fun _ => 0))), ((r_2 9), .inl (T 1, 12, .inl (fun _ => 0))), ((r_2 10), .inl (T 1, 12, .inl (fun _ => 0))), ((r_2 11), .inl (T 1, 12, .inl (fun _ => 0)))] H ∧ va_D A [(a1, .inr (17, [.int 0, .ref a2, .ref a3, .ref a4, .long 0])), (a2, .inl (T 2, 12, .inr (.inr (.inr (.inr (fun _ => none)))))), (q_1, .inl (T 3, 12, .inr (.inr (.inr (.inr (fun i => if i < 12 then some (r_2 i) else none)))))), ((r_2 0), .inl (T 1, 12, .inl (fun _ => 0))), ((r_2 1), .inl (T 1, 12, .inl (fun _ => 0))), ((r_2 2), .inl (T 1, 12, .inl (fun _ => 0))), ((r_2 3), .inl (T 1, 12, .inl (fun _ => 0))), ((r_2 4), .inl (T 1, 12, .inl (fun _ => 0))), ((r_2 5), .inl (T 1, 12, .inl (fun _ => 0))), ((r_2 6), .inl (T 1, 12, .inl (fun _ => 0))), ((r_2 7), .inl (T 1, 12, .inl (fun _ => 0))), ((r_2 8), .inl (T 1, 12, .inl (fun _ => 0))), ((r_2 9), .inl (T 1, 12, .inl (fun _ => 0))), ((r_2 10), .inl (T 1, 12, .inl (fun _ => 0))), ((r_2 11), .inl (T 1, 12, .inl (fun _ => 0)))] ∧ va_S A s.heap H locs ∧ lv_has ls 4 [(2, .int (nI i_k_3)), (1, .ref q_1), (0, .ref a1)]) (N := 12) (fun i_k_3 H locs ls hi_k_3 hI ih_k_3 => ?_) (0) _ _ _ (by omega) ⟨hP, hD, hS, lv_sub hl [0, 1, 2] rfl⟩
  obtain ⟨hP, hD, hS, hl⟩ := hI
  refine lv_iload_n hx hb dX12_edges_11 rfl (lv_at hl 0 rfl) ?_
  refine lv_bipush (v := 12) hx hb dX12_edges_12 (by decide) ?_
  have hz_5 : (nI i_k_3).toInt = ((i_k_3 : Nat) : Int) := nI_toInt (by omega)
  refine lv_icmp_ge (tgt := 61) hx hb dX12_edges_14 (by decide) (fun c_4 => ?_) (fun c_4 => ?_)
  · have nc_4 : 12 ≤ (nI i_k_3).toInt := (xi_le (by decide +kernel) rfl).mp c_4
    refine lv_aload_n hx hb dX12_edges_61 rfl (lv_at hl 1 rfl) ?_
    have hP9 := hP.sub (ws' := [(a1, .inr (17, [.int 0, .ref a2, .ref a3, .ref a4, .long 0])), (a2, .inl (T 2, 12, .inr (.inr (.inr (.inr (fun _ => none)))))), (q_1, .inl (T 3, 12, .inr (.inr (.inr (.inr (fun i => if i < 12 then some (r_2 i) else none)))))), ((r_2 0), .inl (T 1, 12, .inl (fun _ => 0))), ((r_2 1), .inl (T 1, 12, .inl (fun _ => 0))), ((r_2 2), .inl (T 1, 12, .inl (fun _ => 0))), ((r_2 3), .inl (T 1, 12, .inl (fun _ => 0))), ((r_2 4), .inl (T 1, 12, .inl (fun _ => 0))), ((r_2 5), .inl (T 1, 12, .inl (fun _ => 0))), ((r_2 6), .inl (T 1, 12, .inl (fun _ => 0))), ((r_2 7), .inl (T 1, 12, .inl (fun _ => 0))), ((r_2 8), .inl (T 1, 12, .inl (fun _ => 0))), ((r_2 9), .inl (T 1, 12, .inl (fun _ => 0))), ((r_2 10), .inl (T 1, 12, .inl (fun _ => 0))), ((r_2 11), .inl (T 1, 12, .inl (fun _ => 0)))]) [0, 1, 2, 3, 4, 5, 6, 7, 8, 9, 10, 11, 12, 13, 14] rfl
    have hD9 := hD.sub (ws' := [(a1, .inr (17, [.int 0, .ref a2, .ref a3, .ref a4, .long 0])), (a2, .inl (T 2, 12, .inr (.inr (.inr (.inr (fun _ => none)))))), (q_1, .inl (T 3, 12, .inr (.inr (.inr (.inr (fun i => if i < 12 then some (r_2 i) else none)))))), ((r_2 0), .inl (T 1, 12, .inl (fun _ => 0))), ((r_2 1), .inl (T 1, 12, .inl (fun _ => 0))), ((r_2 2), .inl (T 1, 12, .inl (fun _ => 0))), ((r_2 3), .inl (T 1, 12, .inl (fun _ => 0))), ((r_2 4), .inl (T 1, 12, .inl (fun _ => 0))), ((r_2 5), .inl (T 1, 12, .inl (fun _ => 0))), ((r_2 6), .inl (T 1, 12, .inl (fun _ => 0))), ((r_2 7), .inl (T 1, 12, .inl (fun _ => 0))), ((r_2 8), .inl (T 1, 12, .inl (fun _ => 0))), ((r_2 9), .inl (T 1, 12, .inl (fun _ => 0))), ((r_2 10), .inl (T 1, 12, .inl (fun _ => 0))), ((r_2 11), .inl (T 1, 12, .inl (fun _ => 0)))]) [0, 1, 2, 3, 4, 5, 6, 7, 8, 9, 10, 11, 12, 13, 14] (by decide) rfl
    exact W.aret (v := .ref q_1) hx hb hr (Or.inr ⟨_, rfl⟩) (Or.inr ⟨_, rfl⟩) (fun t ht hW => ⟨⟨(), _, rfl, trivial, ⟨q_1, r_2, rfl, by rw [ht]; exact hP9, hD9⟩⟩, hS.F ht⟩) hS.2.2 dX12_edges_62
  · have nc_4 : ¬ (12 ≤ (nI i_k_3).toInt) := mt (xi_le (by decide +kernel) rfl).mpr c_4
    refine lv_iconst (v := 0) hx hb dX12_edges_17 (by decide) ?_
    refine lv_istore_n (lv' := [(3, .int 0), (2, .int (nI i_k_3)), (1, .ref q_1), (0, .ref a1)]) hx hb dX12_edges_18 rfl hl (by decide) rfl (fun ls hl => ?_)
    refine xLoop (P := fun i_k_6 H locs ls => va_P (dC, dI) vwCl [(a1, .inr (17, [.int 0, .ref a2, .ref a3, .ref a4, .long 0])), (a2, .inl (T 2, 12, .inr (.inr (.inr (.inr (fun _ => none)))))), (q_1, .inl (T 3, 12, .inr (.inr (.inr (.inr (fun i => if i < 12 then some (r_2 i) else none)))))), ((r_2 0), .inl (T 1, 12, .inl (fun _ => 0))), ((r_2 1), .inl (T 1, 12, .inl (fun _ => 0))), ((r_2 2), .inl (T 1, 12, .inl (fun _ => 0))), ((r_2 3), .inl (T 1, 12, .inl (fun _ => 0))), ((r_2 4), .inl (T 1, 12, .inl (fun _ => 0))), ((r_2 5), .inl (T 1, 12, .inl (fun _ => 0))), ((r_2 6), .inl (T 1, 12, .inl (fun _ => 0))), ((r_2 7), .inl (T 1, 12, .inl (fun _ => 0))), ((r_2 8), .inl (T 1, 12, .inl (fun _ => 0))), ((r_2 9), .inl (T 1, 12, .inl (fun _ => 0))), ((r_2 10), .inl (T 1, 12, .inl (fun _ => 0))), ((r_2 11), .inl (T 1, 12, .inl (fun _ => 0)))] H ∧ va_D A [(a1, .inr (17, [.int 0, .ref a2, .ref a3, .ref a4, .long 0])), (a2, .inl (T 2, 12, .inr (.inr (.inr (.inr (fun _ => none)))))), (q_1, .inl (T 3, 12, .inr (.inr (.inr (.inr (fun i => if i < 12 then some (r_2 i) else none)))))), ((r_2 0), .inl (T 1, 12, .inl (fun _ => 0))), ((r_2 1), .inl (T 1, 12, .inl (fun _ => 0))), ((r_2 2), .inl (T 1, 12, .inl (fun _ => 0))), ((r_2 3), .inl (T 1, 12, .inl (fun _ => 0))), ((r_2 4), .inl (T 1, 12, .inl (fun _ => 0))), ((r_2 5), .inl (T 1, 12, .inl (fun _ => 0))), ((r_2 6), .inl (T 1, 12, .inl (fun _ => 0))), ((r_2 7), .inl (T 1, 12, .inl (fun _ => 0))), ((r_2 8), .inl (T 1, 12, .inl (fun _ => 0))), ((r_2 9), .inl (T 1, 12, .inl (fun _ => 0))), ((r_2 10), .inl (T 1, 12, .inl (fun _ => 0))), ((r_2 11), .inl (T 1, 12, .inl (fun _ => 0)))] ∧ va_S A s.heap H locs ∧ lv_has ls 4 [(3, .int (nI i_k_6)), (2, .int (nI i_k_3)), (1, .ref q_1), (0, .ref a1)]) (N := 12) (fun i_k_6 H locs ls hi_k_6 hI ih_k_6 => ?_) (0) _ _ _ (by omega) ⟨hP, hD, hS, lv_sub hl [0, 1, 2, 3] rfl⟩
    obtain ⟨hP, hD, hS, hl⟩ := hI
    refine lv_iload_n hx hb dX12_edges_19 rfl (lv_at hl 0 rfl) ?_
    refine lv_bipush (v := 12) hx hb dX12_edges_20 (by decide) ?_
    have hz_8 : (nI i_k_6).toInt = ((i_k_6 : Nat) : Int) := nI_toInt (by omega)
    refine lv_icmp_ge (tgt := 55) hx hb dX12_edges_22 (by decide) (fun c_7 => ?_) (fun c_7 => ?_)
    · have nc_7 : 12 ≤ (nI i_k_6).toInt := (xi_le (by decide +kernel) rfl).mp c_7
      refine lv_iinc (v := (nI (i_k_3 + 1))) (lv' := [(2, .int (nI (i_k_3 + 1))), (3, .int (nI i_k_6)), (1, .ref q_1), (0, .ref a1)]) hx hb dX12_edges_55 hl (k := 1) rfl (nI_1 _) (by decide) rfl (fun ls hl => ?_)
      refine lv_goto (tgt := 11) hx hb dX12_edges_58 (by decide) ?_
      exact ih_k_3 _ _ _ (by omega) ⟨hP, hD, hS, lv_sub hl [0, 2, 3] rfl⟩
    · have nc_7 : ¬ (12 ≤ (nI i_k_6).toInt) := mt (xi_le (by decide +kernel) rfl).mpr c_7
      refine lv_aload_n hx hb dX12_edges_25 rfl (lv_at hl 2 rfl) ?_
      refine lv_iload_n hx hb dX12_edges_26 rfl (lv_at hl 1 rfl) ?_
      refine xAldq hx hb hK hP 2 3 rfl rfl (vp_in_nI (by omega) (by decide)) dX12_edges_27 ?_
      rw [show va_rf ((fun i => if i < 12 then some (r_2 i) else none) ((nI i_k_3) : Int32).toNatClampNeg) = .ref (r_2 i_k_3) from by rw [show ((nI i_k_3) : Int32).toNatClampNeg = i_k_3 from nI_clamp (by omega)]; simp [va_rf, show i_k_3 < 12 by omega]]
      refine lv_iload_n hx hb dX12_edges_28 rfl (lv_at hl 0 rfl) ?_
      refine lv_iload_n hx hb dX12_edges_29 rfl (lv_at hl 1 rfl) ?_
      refine lv_iload_n hx hb dX12_edges_30 rfl (lv_at hl 0 rfl) ?_
      refine lv_icmp_eq (tgt := 47) hx hb dX12_edges_31 (by decide) (fun c_9 => ?_) (fun c_9 => ?_)
      · have nc_9 : (nI i_k_3).toInt = (nI i_k_6).toInt := (xi_eq rfl rfl).mp c_9
        refine lv_iconst (v := 0) hx hb dX12_edges_47 (by decide) ?_
        have hrow_10 : ∀ i : Nat, i < 12 → ([(a1, .inr (17, [.int 0, .ref a2, .ref a3, .ref a4, .long 0])), (a2, .inl (T 2, 12, .inr (.inr (.inr (.inr (fun _ => none)))))), (q_1, .inl (T 3, 12, .inr (.inr (.inr (.inr (fun i => if i < 12 then some (r_2 i) else none)))))), ((r_2 0), .inl (T 1, 12, .inl (fun _ => 0))), ((r_2 1), .inl (T 1, 12, .inl (fun _ => 0))), ((r_2 2), .inl (T 1, 12, .inl (fun _ => 0))), ((r_2 3), .inl (T 1, 12, .inl (fun _ => 0))), ((r_2 4), .inl (T 1, 12, .inl (fun _ => 0))), ((r_2 5), .inl (T 1, 12, .inl (fun _ => 0))), ((r_2 6), .inl (T 1, 12, .inl (fun _ => 0))), ((r_2 7), .inl (T 1, 12, .inl (fun _ => 0))), ((r_2 8), .inl (T 1, 12, .inl (fun _ => 0))), ((r_2 9), .inl (T 1, 12, .inl (fun _ => 0))), ((r_2 10), .inl (T 1, 12, .inl (fun _ => 0))), ((r_2 11), .inl (T 1, 12, .inl (fun _ => 0)))] : va_W)[3 + i]? = some (r_2 i, .inl (T 1, 12, .inl (fun _ => 0))) := by
          intro i hi
          rcases (show i = 0 ∨ i = 1 ∨ i = 2 ∨ i = 3 ∨ i = 4 ∨ i = 5 ∨ i = 6 ∨ i = 7 ∨ i = 8 ∨ i = 9 ∨ i = 10 ∨ i = 11 by omega) with rfl | rfl | rfl | rfl | rfl | rfl | rfl | rfl | rfl | rfl | rfl | rfl <;> rfl
        refine va_zast hx hb hK hP hD hS (3 + i_k_3) 1 (hrow_10 i_k_3 (by omega)) rfl (vp_in_nI (by omega) (by decide)) dX12_edges_48 (fun H locs hP hD hS => ?_)
        rw [xnrb0] at hP hD; rw [xz, xset (hrow_10 i_k_3 (by omega))] at hP hD
        refine lv_iinc (v := (nI (i_k_6 + 1))) (lv' := [(3, .int (nI (i_k_6 + 1))), (2, .int (nI i_k_3)), (1, .ref q_1), (0, .ref a1)]) hx hb dX12_edges_49 hl (k := 0) rfl (nI_1 _) (by decide) rfl (fun ls hl => ?_)
        refine lv_goto (tgt := 19) hx hb dX12_edges_52 (by decide) ?_
        exact ih_k_6 _ _ _ (by omega) ⟨hP, hD, hS, lv_sub hl [0, 1, 2, 3] rfl⟩
      · have nc_9 : ¬ ((nI i_k_3).toInt = (nI i_k_6).toInt) := mt (xi_eq rfl rfl).mpr c_9
        refine lv_aload_n hx hb dX12_edges_34 rfl (lv_at hl 3 rfl) ?_
        refine lv_iload_n hx hb dX12_edges_35 rfl (lv_at hl 1 rfl) ?_
        refine lv_iload_n hx hb dX12_edges_36 rfl (lv_at hl 0 rfl) ?_
        have hPc := hP.sub (ws' := [(a1, .inr (17, [.int 0, .ref a2, .ref a3, .ref a4, .long 0])), (a2, .inl (T 2, 12, .inr (.inr (.inr (.inr (fun _ => none))))))]) [0, 1] rfl
        have hDc := hD.sub (ws' := [(a1, .inr (17, [.int 0, .ref a2, .ref a3, .ref a4, .long 0])), (a2, .inl (T 2, 12, .inr (.inr (.inr (.inr (fun _ => none))))))]) [0, 1] (by decide) rfl
        have hFc := va_free (wc := [(a1, .inr (17, [.int 0, .ref a2, .ref a3, .ref a4, .long 0])), (a2, .inl (T 2, 12, .inr (.inr (.inr (.inr (fun _ => none))))))]) hD hS hA [0, 1] rfl
        refine va_calli (va_runV (As := [.int (nI i_k_3), .int (nI i_k_6)]) (rest := [.int (nI i_k_6), .ref (r_2 i_k_3)]) ⟨hx, hb, hml, hown, hts⟩ (xcX12_isEdge l hst dC dI T a1 a2 a3 a4 H.size (nI i_k_3) (nI i_k_6)) (cwV 2 hts gX12_edges_X12_isEdge rfl rfl rfl (by decide +kernel) ⟨Nat.le_of_ble_eq_true rfl, Nat.le_of_ble_eq_true rfl⟩) ⟨xBlind, va_recv hK hPc (ci := 17) (q0 := 0) rfl rfl, xCall hK hG hS hPc hDc hFc⟩ rfl rfl hl.1 rfl (lv_room (Nat.le_of_ble_eq_true rfl)) dX12_edges_37 ⟨Nat.le_of_ble_eq_true rfl, Nat.le_of_ble_eq_true rfl⟩) hS (fun q _ h => hFc q h) hFc (fun r_9 u t H locs ht hvm hw hB hz1 hk1 hS => ?_)
        subst hw
        rcases hB with ⟨hr_9, hP1, hD1⟩
        rw [ht] at hP1
        subst hr_9
        obtain ⟨hP, hD⟩ := va_join (wr := [(q_1, .inl (T 3, 12, .inr (.inr (.inr (.inr (fun i => if i < 12 then some (r_2 i) else none)))))), ((r_2 0), .inl (T 1, 12, .inl (fun _ => 0))), ((r_2 1), .inl (T 1, 12, .inl (fun _ => 0))), ((r_2 2), .inl (T 1, 12, .inl (fun _ => 0))), ((r_2 3), .inl (T 1, 12, .inl (fun _ => 0))), ((r_2 4), .inl (T 1, 12, .inl (fun _ => 0))), ((r_2 5), .inl (T 1, 12, .inl (fun _ => 0))), ((r_2 6), .inl (T 1, 12, .inl (fun _ => 0))), ((r_2 7), .inl (T 1, 12, .inl (fun _ => 0))), ((r_2 8), .inl (T 1, 12, .inl (fun _ => 0))), ((r_2 9), .inl (T 1, 12, .inl (fun _ => 0))), ((r_2 10), .inl (T 1, 12, .inl (fun _ => 0))), ((r_2 11), .inl (T 1, 12, .inl (fun _ => 0)))]) (w1 := [(a1, .inr (17, [.int 0, .ref a2, .ref a3, .ref a4, .long 0])), (a2, .inl (T 2, 12, .inr (.inr (.inr (.inr (fun _ => none))))))]) hP hD [0, 1] [2, 3, 4, 5, 6, 7, 8, 9, 10, 11, 12, 13, 14] rfl rfl (by decide) (by decide) hk1 hFc hP1 hD1
        have hP := hP.sub (ws' := [(a1, .inr (17, [.int 0, .ref a2, .ref a3, .ref a4, .long 0])), (a2, .inl (T 2, 12, .inr (.inr (.inr (.inr (fun _ => none)))))), (q_1, .inl (T 3, 12, .inr (.inr (.inr (.inr (fun i => if i < 12 then some (r_2 i) else none)))))), ((r_2 0), .inl (T 1, 12, .inl (fun _ => 0))), ((r_2 1), .inl (T 1, 12, .inl (fun _ => 0))), ((r_2 2), .inl (T 1, 12, .inl (fun _ => 0))), ((r_2 3), .inl (T 1, 12, .inl (fun _ => 0))), ((r_2 4), .inl (T 1, 12, .inl (fun _ => 0))), ((r_2 5), .inl (T 1, 12, .inl (fun _ => 0))), ((r_2 6), .inl (T 1, 12, .inl (fun _ => 0))), ((r_2 7), .inl (T 1, 12, .inl (fun _ => 0))), ((r_2 8), .inl (T 1, 12, .inl (fun _ => 0))), ((r_2 9), .inl (T 1, 12, .inl (fun _ => 0))), ((r_2 10), .inl (T 1, 12, .inl (fun _ => 0))), ((r_2 11), .inl (T 1, 12, .inl (fun _ => 0)))]) [13, 14, 0, 1, 2, 3, 4, 5, 6, 7, 8, 9, 10, 11, 12] rfl
        have hD := hD.sub (ws' := [(a1, .inr (17, [.int 0, .ref a2, .ref a3, .ref a4, .long 0])), (a2, .inl (T 2, 12, .inr (.inr (.inr (.inr (fun _ => none)))))), (q_1, .inl (T 3, 12, .inr (.inr (.inr (.inr (fun i => if i < 12 then some (r_2 i) else none)))))), ((r_2 0), .inl (T 1, 12, .inl (fun _ => 0))), ((r_2 1), .inl (T 1, 12, .inl (fun _ => 0))), ((r_2 2), .inl (T 1, 12, .inl (fun _ => 0))), ((r_2 3), .inl (T 1, 12, .inl (fun _ => 0))), ((r_2 4), .inl (T 1, 12, .inl (fun _ => 0))), ((r_2 5), .inl (T 1, 12, .inl (fun _ => 0))), ((r_2 6), .inl (T 1, 12, .inl (fun _ => 0))), ((r_2 7), .inl (T 1, 12, .inl (fun _ => 0))), ((r_2 8), .inl (T 1, 12, .inl (fun _ => 0))), ((r_2 9), .inl (T 1, 12, .inl (fun _ => 0))), ((r_2 10), .inl (T 1, 12, .inl (fun _ => 0))), ((r_2 11), .inl (T 1, 12, .inl (fun _ => 0)))]) [13, 14, 0, 1, 2, 3, 4, 5, 6, 7, 8, 9, 10, 11, 12] (by decide) rfl
        clear hPc hDc hFc hP1 hD1 hk1 hz1 ht hvm
        refine lv_if_eq (tgt := 47) hx hb dX12_edges_40 (by decide) (fun c_12 => ?_) (fun c_12 => absurd (by decide) c_12)
        refine lv_iconst (v := 0) hx hb dX12_edges_47 (by decide) ?_
        have hrow_13 : ∀ i : Nat, i < 12 → ([(a1, .inr (17, [.int 0, .ref a2, .ref a3, .ref a4, .long 0])), (a2, .inl (T 2, 12, .inr (.inr (.inr (.inr (fun _ => none)))))), (q_1, .inl (T 3, 12, .inr (.inr (.inr (.inr (fun i => if i < 12 then some (r_2 i) else none)))))), ((r_2 0), .inl (T 1, 12, .inl (fun _ => 0))), ((r_2 1), .inl (T 1, 12, .inl (fun _ => 0))), ((r_2 2), .inl (T 1, 12, .inl (fun _ => 0))), ((r_2 3), .inl (T 1, 12, .inl (fun _ => 0))), ((r_2 4), .inl (T 1, 12, .inl (fun _ => 0))), ((r_2 5), .inl (T 1, 12, .inl (fun _ => 0))), ((r_2 6), .inl (T 1, 12, .inl (fun _ => 0))), ((r_2 7), .inl (T 1, 12, .inl (fun _ => 0))), ((r_2 8), .inl (T 1, 12, .inl (fun _ => 0))), ((r_2 9), .inl (T 1, 12, .inl (fun _ => 0))), ((r_2 10), .inl (T 1, 12, .inl (fun _ => 0))), ((r_2 11), .inl (T 1, 12, .inl (fun _ => 0)))] : va_W)[3 + i]? = some (r_2 i, .inl (T 1, 12, .inl (fun _ => 0))) := by
          intro i hi
          rcases (show i = 0 ∨ i = 1 ∨ i = 2 ∨ i = 3 ∨ i = 4 ∨ i = 5 ∨ i = 6 ∨ i = 7 ∨ i = 8 ∨ i = 9 ∨ i = 10 ∨ i = 11 by omega) with rfl | rfl | rfl | rfl | rfl | rfl | rfl | rfl | rfl | rfl | rfl | rfl <;> rfl
        refine va_zast hx hb hK hP hD hS (3 + i_k_3) 1 (hrow_13 i_k_3 (by omega)) rfl (vp_in_nI (by omega) (by decide)) dX12_edges_48 (fun H locs hP hD hS => ?_)
        rw [xnrb0] at hP hD; rw [xz, xset (hrow_13 i_k_3 (by omega))] at hP hD
        refine lv_iinc (v := (nI (i_k_6 + 1))) (lv' := [(3, .int (nI (i_k_6 + 1))), (2, .int (nI i_k_3)), (1, .ref q_1), (0, .ref a1)]) hx hb dX12_edges_49 hl (k := 0) rfl (nI_1 _) (by decide) rfl (fun ls hl => ?_)
        refine lv_goto (tgt := 19) hx hb dX12_edges_52 (by decide) ?_
        exact ih_k_6 _ _ _ (by omega) ⟨hP, hD, hS, lv_sub hl [0, 1, 2, 3] rfl⟩
set_option maxHeartbeats 4000000 in
set_option maxRecDepth 100000 in
theorem xcX12_joined (l : Launch) (hst : l.stackTraces = false) (dC : Nat → ClassId) (dI : Nat → Nat → Nat) (T : Nat → ClassId) (a1 : Nat) (a2 : Nat) (a3 : Nat) (a4 : Nat) (sz : Nat) (p1 : Int32) : Met l yX12_joined wsX12_joined ({ frames := 4, cells := 13, slots := 156, locals := 93 } : Room) (va_Pc [.ref a1, .int p1] (fun U => xB dC dI T [(a1, .inr (17, [.int 0, .ref a2, .ref a3, .ref a4, .long 0])), (a2, .inl (T 2, 12, .inr (.inr (.inr (.inr (fun _ => none))))))] sz U)) (va_Qr (fun _ : Unit => True) (fun (_ : Unit) (ra : Nat) (t : State) => ∃ (q_1 : Nat) (r_2 : Nat → Nat), q_1 = ra ∧ xE dC dI [(a1, .inr (17, [.int 0, .ref a2, .ref a3, .ref a4, .long 0])), (a2, .inl (T 2, 12, .inr (.inr (.inr (.inr (fun _ => none)))))), (q_1, .inl (T 3, 12, .inr (.inr (.inr (.inr (fun i => if i < 12 then some (r_2 i) else none)))))), ((r_2 0), .inl (T 1, 12, .inl (fun _ => 0))), ((r_2 1), .inl (T 1, 12, .inl (fun _ => 0))), ((r_2 2), .inl (T 1, 12, .inl (fun _ => 0))), ((r_2 3), .inl (T 1, 12, .inl (fun _ => 0))), ((r_2 4), .inl (T 1, 12, .inl (fun _ => 0))), ((r_2 5), .inl (T 1, 12, .inl (fun _ => 0))), ((r_2 6), .inl (T 1, 12, .inl (fun _ => 0))), ((r_2 7), .inl (T 1, 12, .inl (fun _ => 0))), ((r_2 8), .inl (T 1, 12, .inl (fun _ => 0))), ((r_2 9), .inl (T 1, 12, .inl (fun _ => 0))), ((r_2 10), .inl (T 1, 12, .inl (fun _ => 0))), ((r_2 11), .inl (T 1, 12, .inl (fun _ => 0)))] (va_A [(a1, .inr (17, [.int 0, .ref a2, .ref a3, .ref a4, .long 0])), (a2, .inl (T 2, 12, .inr (.inr (.inr (.inr (fun _ => none))))))] sz) t) (va_A [(a1, .inr (17, [.int 0, .ref a2, .ref a3, .ref a4, .long 0])), (a2, .inl (T 2, 12, .inr (.inr (.inr (.inr (fun _ => none))))))] sz)) 13 156 (va_A [(a1, .inr (17, [.int 0, .ref a2, .ref a3, .ref a4, .long 0])), (a2, .inl (T 2, 12, .inr (.inr (.inr (.inr (fun _ => none))))))] sz) := by
  refine Met.ofW (cc := cX12_joined) (maxL := 5) (ret := (some (.array (.array .boolean)))) (by decide +kernel) rfl ?_
  intro p e s m args below meth c s₁ B hml hv
  obtain ⟨rfl, hsz, hP, hK, hD0, hG⟩ := hv
  have hx := B.exec
  have hb := B.bytes
  have hr := B.returns
  have hts := atoms_spec (ws := wsX12_joined) B.pre
  have hown : s.vm.findClass RX12 = some m.cls := findClass_of_methodNamed B.named
  have hlocks := B.notSynchronized
  subst hsz
  have hD := hD0.self (sz := s.heap.size)
  generalize hAe : va_A [(a1, .inr (17, [.int 0, .ref a2, .ref a3, .ref a4, .long 0])), (a2, .inl (T 2, 12, .inr (.inr (.inr (.inr (fun _ => none))))))] s.heap.size = A at hD hG ⊢
  have hA : ∀ q : Nat, s.heap.size ≤ q → A q := fun q h => by rw [← hAe]; exact Or.inr h
  have hS : va_S A s.heap s.heap [] := va_S.rf
  have hl := lv_entry ([.ref a1, .int p1]) (n := 5) (Nat.le_of_ble_eq_true rfl)
  rw [lg_entry_eq]
  generalize (lg_sl ([.ref a1, .int p1]) ++ List.replicate (5 - (lg_sl ([.ref a1, .int p1])).length) Slot.unset).toArray = ls at hl ⊢
  have hl : lv_has ls 5 [(0, .ref a1), (1, .int p1)] := hl
  refine lv_aload_n hx hb dX12_joined_0 rfl (lv_at hl 0 rfl) ?_
  have hPc := hP.sub (ws' := [(a1, .inr (17, [.int 0, .ref a2, .ref a3, .ref a4, .long 0])), (a2, .inl (T 2, 12, .inr (.inr (.inr (.inr (fun _ => none))))))]) [0, 1] rfl
  have hDc := hD.sub (ws' := [(a1, .inr (17, [.int 0, .ref a2, .ref a3, .ref a4, .long 0])), (a2, .inl (T 2, 12, .inr (.inr (.inr (.inr (fun _ => none))))))]) [0, 1] (by decide) rfl
  have hFc := va_free (wc := [(a1, .inr (17, [.int 0, .ref a2, .ref a3, .ref a4, .long 0])), (a2, .inl (T 2, 12, .inr (.inr (.inr (.inr (fun _ => none))))))]) hD hS hA [0, 1] rfl
  refine va_callr (va_runV (As := []) (rest := []) ⟨hx, hb, hml, hown, hts⟩ (xcX12_edges l hst dC dI T a1 a2 a3 a4 s.heap.size) (cwV 0 hts gX12_joined_X12_edges rfl rfl rfl (by decide +kernel) ⟨Nat.le_of_ble_eq_true rfl, Nat.le_of_ble_eq_true rfl⟩) ⟨xBlind, va_recv hK hPc (ci := 17) (q0 := 0) rfl rfl, xCall hK hG hS hPc hDc hFc⟩ rfl rfl hl.1 rfl (lv_room (Nat.le_of_ble_eq_true rfl)) dX12_joined_1 ⟨Nat.le_of_ble_eq_true rfl, Nat.le_of_ble_eq_true rfl⟩) hS (fun q _ h => hFc q h) hFc (fun u ra t H locs ht hvm hw hB hz1 hk1 hS => ?_)
  rcases hB with ⟨q_1, r_2, hr_9, hP1, hD1⟩
  rw [ht] at hP1
  subst hr_9
  obtain ⟨hP, hD⟩ := va_join (wr := []) (w1 := [(a1, .inr (17, [.int 0, .ref a2, .ref a3, .ref a4, .long 0])), (a2, .inl (T 2, 12, .inr (.inr (.inr (.inr (fun _ => none)))))), (q_1, .inl (T 3, 12, .inr (.inr (.inr (.inr (fun i => if i < 12 then some (r_2 i) else none)))))), ((r_2 0), .inl (T 1, 12, .inl (fun _ => 0))), ((r_2 1), .inl (T 1, 12, .inl (fun _ => 0))), ((r_2 2), .inl (T 1, 12, .inl (fun _ => 0))), ((r_2 3), .inl (T 1, 12, .inl (fun _ => 0))), ((r_2 4), .inl (T 1, 12, .inl (fun _ => 0))), ((r_2 5), .inl (T 1, 12, .inl (fun _ => 0))), ((r_2 6), .inl (T 1, 12, .inl (fun _ => 0))), ((r_2 7), .inl (T 1, 12, .inl (fun _ => 0))), ((r_2 8), .inl (T 1, 12, .inl (fun _ => 0))), ((r_2 9), .inl (T 1, 12, .inl (fun _ => 0))), ((r_2 10), .inl (T 1, 12, .inl (fun _ => 0))), ((r_2 11), .inl (T 1, 12, .inl (fun _ => 0)))]) hP hD [0, 1] [] rfl rfl (by decide) (by decide) hk1 hFc hP1 hD1
  have hP : va_P (dC, dI) vwCl [(a1, .inr (17, [.int 0, .ref a2, .ref a3, .ref a4, .long 0])), (a2, .inl (T 2, 12, .inr (.inr (.inr (.inr (fun _ => none)))))), (q_1, .inl (T 3, 12, .inr (.inr (.inr (.inr (fun i => if i < 12 then some (r_2 i) else none)))))), ((r_2 0), .inl (T 1, 12, .inl (fun _ => 0))), ((r_2 1), .inl (T 1, 12, .inl (fun _ => 0))), ((r_2 2), .inl (T 1, 12, .inl (fun _ => 0))), ((r_2 3), .inl (T 1, 12, .inl (fun _ => 0))), ((r_2 4), .inl (T 1, 12, .inl (fun _ => 0))), ((r_2 5), .inl (T 1, 12, .inl (fun _ => 0))), ((r_2 6), .inl (T 1, 12, .inl (fun _ => 0))), ((r_2 7), .inl (T 1, 12, .inl (fun _ => 0))), ((r_2 8), .inl (T 1, 12, .inl (fun _ => 0))), ((r_2 9), .inl (T 1, 12, .inl (fun _ => 0))), ((r_2 10), .inl (T 1, 12, .inl (fun _ => 0))), ((r_2 11), .inl (T 1, 12, .inl (fun _ => 0)))] H := hP
  have hD : va_D A [(a1, .inr (17, [.int 0, .ref a2, .ref a3, .ref a4, .long 0])), (a2, .inl (T 2, 12, .inr (.inr (.inr (.inr (fun _ => none)))))), (q_1, .inl (T 3, 12, .inr (.inr (.inr (.inr (fun i => if i < 12 then some (r_2 i) else none)))))), ((r_2 0), .inl (T 1, 12, .inl (fun _ => 0))), ((r_2 1), .inl (T 1, 12, .inl (fun _ => 0))), ((r_2 2), .inl (T 1, 12, .inl (fun _ => 0))), ((r_2 3), .inl (T 1, 12, .inl (fun _ => 0))), ((r_2 4), .inl (T 1, 12, .inl (fun _ => 0))), ((r_2 5), .inl (T 1, 12, .inl (fun _ => 0))), ((r_2 6), .inl (T 1, 12, .inl (fun _ => 0))), ((r_2 7), .inl (T 1, 12, .inl (fun _ => 0))), ((r_2 8), .inl (T 1, 12, .inl (fun _ => 0))), ((r_2 9), .inl (T 1, 12, .inl (fun _ => 0))), ((r_2 10), .inl (T 1, 12, .inl (fun _ => 0))), ((r_2 11), .inl (T 1, 12, .inl (fun _ => 0)))] := hD
  clear hPc hDc hFc hP1 hD1 hk1 hz1 ht hvm
  refine lv_astore_n (lv' := [(2, .ref q_1), (0, .ref a1), (1, .int p1)]) hx hb dX12_joined_4 rfl hl (by decide) rfl (fun ls hl => ?_)
  refine lv_iconst (v := 0) hx hb dX12_joined_5 (by decide) ?_
  refine lv_istore_n (lv' := [(3, .int 0), (2, .ref q_1), (0, .ref a1), (1, .int p1)]) hx hb dX12_joined_6 rfl hl (by decide) rfl (fun ls hl => ?_)
  refine xLoop (P := fun i_k_4 H locs ls => va_P (dC, dI) vwCl [(a1, .inr (17, [.int 0, .ref a2, .ref a3, .ref a4, .long 0])), (a2, .inl (T 2, 12, .inr (.inr (.inr (.inr (fun _ => none)))))), (q_1, .inl (T 3, 12, .inr (.inr (.inr (.inr (fun i => if i < 12 then some (r_2 i) else none)))))), ((r_2 0), .inl (T 1, 12, .inl (fun _ => 0))), ((r_2 1), .inl (T 1, 12, .inl (fun _ => 0))), ((r_2 2), .inl (T 1, 12, .inl (fun _ => 0))), ((r_2 3), .inl (T 1, 12, .inl (fun _ => 0))), ((r_2 4), .inl (T 1, 12, .inl (fun _ => 0))), ((r_2 5), .inl (T 1, 12, .inl (fun _ => 0))), ((r_2 6), .inl (T 1, 12, .inl (fun _ => 0))), ((r_2 7), .inl (T 1, 12, .inl (fun _ => 0))), ((r_2 8), .inl (T 1, 12, .inl (fun _ => 0))), ((r_2 9), .inl (T 1, 12, .inl (fun _ => 0))), ((r_2 10), .inl (T 1, 12, .inl (fun _ => 0))), ((r_2 11), .inl (T 1, 12, .inl (fun _ => 0)))] H ∧ va_D A [(a1, .inr (17, [.int 0, .ref a2, .ref a3, .ref a4, .long 0])), (a2, .inl (T 2, 12, .inr (.inr (.inr (.inr (fun _ => none)))))), (q_1, .inl (T 3, 12, .inr (.inr (.inr (.inr (fun i => if i < 12 then some (r_2 i) else none)))))), ((r_2 0), .inl (T 1, 12, .inl (fun _ => 0))), ((r_2 1), .inl (T 1, 12, .inl (fun _ => 0))), ((r_2 2), .inl (T 1, 12, .inl (fun _ => 0))), ((r_2 3), .inl (T 1, 12, .inl (fun _ => 0))), ((r_2 4), .inl (T 1, 12, .inl (fun _ => 0))), ((r_2 5), .inl (T 1, 12, .inl (fun _ => 0))), ((r_2 6), .inl (T 1, 12, .inl (fun _ => 0))), ((r_2 7), .inl (T 1, 12, .inl (fun _ => 0))), ((r_2 8), .inl (T 1, 12, .inl (fun _ => 0))), ((r_2 9), .inl (T 1, 12, .inl (fun _ => 0))), ((r_2 10), .inl (T 1, 12, .inl (fun _ => 0))), ((r_2 11), .inl (T 1, 12, .inl (fun _ => 0)))] ∧ va_S A s.heap H locs ∧ lv_has ls 5 [(3, .int (nI i_k_4)), (2, .ref q_1), (0, .ref a1), (1, .int p1)]) (N := 12) (fun i_k_4 H locs ls hi_k_4 hI ih_k_4 => ?_) (0) _ _ _ (by omega) ⟨hP, hD, hS, lv_sub hl [0, 1, 2, 3] rfl⟩
  obtain ⟨hP, hD, hS, hl⟩ := hI
  refine lv_iload_n hx hb dX12_joined_7 rfl (lv_at hl 0 rfl) ?_
  refine lv_bipush (v := 12) hx hb dX12_joined_8 (by decide) ?_
  have hz_6 : (nI i_k_4).toInt = ((i_k_4 : Nat) : Int) := nI_toInt (by omega)
  refine lv_icmp_ge (tgt := 72) hx hb dX12_joined_10 (by decide) (fun c_5 => ?_) (fun c_5 => ?_)
  · have nc_5 : 12 ≤ (nI i_k_4).toInt := (xi_le (by decide +kernel) rfl).mp c_5
    refine lv_aload_n hx hb dX12_joined_72 rfl (lv_at hl 1 rfl) ?_
    have hP9 := hP.sub (ws' := [(a1, .inr (17, [.int 0, .ref a2, .ref a3, .ref a4, .long 0])), (a2, .inl (T 2, 12, .inr (.inr (.inr (.inr (fun _ => none)))))), (q_1, .inl (T 3, 12, .inr (.inr (.inr (.inr (fun i => if i < 12 then some (r_2 i) else none)))))), ((r_2 0), .inl (T 1, 12, .inl (fun _ => 0))), ((r_2 1), .inl (T 1, 12, .inl (fun _ => 0))), ((r_2 2), .inl (T 1, 12, .inl (fun _ => 0))), ((r_2 3), .inl (T 1, 12, .inl (fun _ => 0))), ((r_2 4), .inl (T 1, 12, .inl (fun _ => 0))), ((r_2 5), .inl (T 1, 12, .inl (fun _ => 0))), ((r_2 6), .inl (T 1, 12, .inl (fun _ => 0))), ((r_2 7), .inl (T 1, 12, .inl (fun _ => 0))), ((r_2 8), .inl (T 1, 12, .inl (fun _ => 0))), ((r_2 9), .inl (T 1, 12, .inl (fun _ => 0))), ((r_2 10), .inl (T 1, 12, .inl (fun _ => 0))), ((r_2 11), .inl (T 1, 12, .inl (fun _ => 0)))]) [0, 1, 2, 3, 4, 5, 6, 7, 8, 9, 10, 11, 12, 13, 14] rfl
    have hD9 := hD.sub (ws' := [(a1, .inr (17, [.int 0, .ref a2, .ref a3, .ref a4, .long 0])), (a2, .inl (T 2, 12, .inr (.inr (.inr (.inr (fun _ => none)))))), (q_1, .inl (T 3, 12, .inr (.inr (.inr (.inr (fun i => if i < 12 then some (r_2 i) else none)))))), ((r_2 0), .inl (T 1, 12, .inl (fun _ => 0))), ((r_2 1), .inl (T 1, 12, .inl (fun _ => 0))), ((r_2 2), .inl (T 1, 12, .inl (fun _ => 0))), ((r_2 3), .inl (T 1, 12, .inl (fun _ => 0))), ((r_2 4), .inl (T 1, 12, .inl (fun _ => 0))), ((r_2 5), .inl (T 1, 12, .inl (fun _ => 0))), ((r_2 6), .inl (T 1, 12, .inl (fun _ => 0))), ((r_2 7), .inl (T 1, 12, .inl (fun _ => 0))), ((r_2 8), .inl (T 1, 12, .inl (fun _ => 0))), ((r_2 9), .inl (T 1, 12, .inl (fun _ => 0))), ((r_2 10), .inl (T 1, 12, .inl (fun _ => 0))), ((r_2 11), .inl (T 1, 12, .inl (fun _ => 0)))]) [0, 1, 2, 3, 4, 5, 6, 7, 8, 9, 10, 11, 12, 13, 14] (by decide) rfl
    exact W.aret (v := .ref q_1) hx hb hr (Or.inr ⟨_, rfl⟩) (Or.inr ⟨_, rfl⟩) (fun t ht hW => ⟨⟨(), _, rfl, trivial, ⟨q_1, r_2, rfl, by rw [ht]; exact hP9, hD9⟩⟩, hS.F ht⟩) hS.2.2 dX12_joined_73
  · have nc_5 : ¬ (12 ≤ (nI i_k_4).toInt) := mt (xi_le (by decide +kernel) rfl).mpr c_5
    refine lv_iconst (v := 0) hx hb dX12_joined_13 (by decide) ?_
    refine lv_istore (lv' := [(4, .int 0), (3, .int (nI i_k_4)), (2, .ref q_1), (0, .ref a1), (1, .int p1)]) hx hb dX12_joined_14 hl (by decide) rfl (fun ls hl => ?_)
    refine xLoop (P := fun i_k_7 H locs ls => va_P (dC, dI) vwCl [(a1, .inr (17, [.int 0, .ref a2, .ref a3, .ref a4, .long 0])), (a2, .inl (T 2, 12, .inr (.inr (.inr (.inr (fun _ => none)))))), (q_1, .inl (T 3, 12, .inr (.inr (.inr (.inr (fun i => if i < 12 then some (r_2 i) else none)))))), ((r_2 0), .inl (T 1, 12, .inl (fun _ => 0))), ((r_2 1), .inl (T 1, 12, .inl (fun _ => 0))), ((r_2 2), .inl (T 1, 12, .inl (fun _ => 0))), ((r_2 3), .inl (T 1, 12, .inl (fun _ => 0))), ((r_2 4), .inl (T 1, 12, .inl (fun _ => 0))), ((r_2 5), .inl (T 1, 12, .inl (fun _ => 0))), ((r_2 6), .inl (T 1, 12, .inl (fun _ => 0))), ((r_2 7), .inl (T 1, 12, .inl (fun _ => 0))), ((r_2 8), .inl (T 1, 12, .inl (fun _ => 0))), ((r_2 9), .inl (T 1, 12, .inl (fun _ => 0))), ((r_2 10), .inl (T 1, 12, .inl (fun _ => 0))), ((r_2 11), .inl (T 1, 12, .inl (fun _ => 0)))] H ∧ va_D A [(a1, .inr (17, [.int 0, .ref a2, .ref a3, .ref a4, .long 0])), (a2, .inl (T 2, 12, .inr (.inr (.inr (.inr (fun _ => none)))))), (q_1, .inl (T 3, 12, .inr (.inr (.inr (.inr (fun i => if i < 12 then some (r_2 i) else none)))))), ((r_2 0), .inl (T 1, 12, .inl (fun _ => 0))), ((r_2 1), .inl (T 1, 12, .inl (fun _ => 0))), ((r_2 2), .inl (T 1, 12, .inl (fun _ => 0))), ((r_2 3), .inl (T 1, 12, .inl (fun _ => 0))), ((r_2 4), .inl (T 1, 12, .inl (fun _ => 0))), ((r_2 5), .inl (T 1, 12, .inl (fun _ => 0))), ((r_2 6), .inl (T 1, 12, .inl (fun _ => 0))), ((r_2 7), .inl (T 1, 12, .inl (fun _ => 0))), ((r_2 8), .inl (T 1, 12, .inl (fun _ => 0))), ((r_2 9), .inl (T 1, 12, .inl (fun _ => 0))), ((r_2 10), .inl (T 1, 12, .inl (fun _ => 0))), ((r_2 11), .inl (T 1, 12, .inl (fun _ => 0)))] ∧ va_S A s.heap H locs ∧ lv_has ls 5 [(4, .int (nI i_k_7)), (3, .int (nI i_k_4)), (2, .ref q_1), (0, .ref a1), (1, .int p1)]) (N := 12) (fun i_k_7 H locs ls hi_k_7 hI ih_k_7 => ?_) (0) _ _ _ (by omega) ⟨hP, hD, hS, lv_sub hl [0, 1, 2, 3, 4] rfl⟩
    obtain ⟨hP, hD, hS, hl⟩ := hI
    refine lv_iload hx hb dX12_joined_16 (lv_at hl 0 rfl) ?_
    refine lv_bipush (v := 12) hx hb dX12_joined_18 (by decide) ?_
    have hz_9 : (nI i_k_7).toInt = ((i_k_7 : Nat) : Int) := nI_toInt (by omega)
    refine lv_icmp_ge (tgt := 66) hx hb dX12_joined_20 (by decide) (fun c_8 => ?_) (fun c_8 => ?_)
    · have nc_8 : 12 ≤ (nI i_k_7).toInt := (xi_le (by decide +kernel) rfl).mp c_8
      refine lv_iinc (v := (nI (i_k_4 + 1))) (lv' := [(3, .int (nI (i_k_4 + 1))), (4, .int (nI i_k_7)), (2, .ref q_1), (0, .ref a1), (1, .int p1)]) hx hb dX12_joined_66 hl (k := 1) rfl (nI_1 _) (by decide) rfl (fun ls hl => ?_)
      refine lv_goto (tgt := 7) hx hb dX12_joined_69 (by decide) ?_
      exact ih_k_4 _ _ _ (by omega) ⟨hP, hD, hS, lv_sub hl [0, 2, 3, 4] rfl⟩
    · have nc_8 : ¬ (12 ≤ (nI i_k_7).toInt) := mt (xi_le (by decide +kernel) rfl).mpr c_8
      refine lv_aload_n hx hb dX12_joined_23 rfl (lv_at hl 2 rfl) ?_
      refine lv_iload_n hx hb dX12_joined_24 rfl (lv_at hl 1 rfl) ?_
      refine xAldq hx hb hK hP 2 3 rfl rfl (vp_in_nI (by omega) (by decide)) dX12_joined_25 ?_
      rw [show va_rf ((fun i => if i < 12 then some (r_2 i) else none) ((nI i_k_4) : Int32).toNatClampNeg) = .ref (r_2 i_k_4) from by rw [show ((nI i_k_4) : Int32).toNatClampNeg = i_k_4 from nI_clamp (by omega)]; simp [va_rf, show i_k_4 < 12 by omega]]
      refine lv_iload hx hb dX12_joined_26 (lv_at hl 0 rfl) ?_
      refine lv_aload_n hx hb dX12_joined_28 rfl (lv_at hl 2 rfl) ?_
      refine lv_iload_n hx hb dX12_joined_29 rfl (lv_at hl 1 rfl) ?_
      refine xAldq hx hb hK hP 2 3 rfl rfl (vp_in_nI (by omega) (by decide)) dX12_joined_30 ?_
      rw [show va_rf ((fun i => if i < 12 then some (r_2 i) else none) ((nI i_k_4) : Int32).toNatClampNeg) = .ref (r_2 i_k_4) from by rw [show ((nI i_k_4) : Int32).toNatClampNeg = i_k_4 from nI_clamp (by omega)]; simp [va_rf, show i_k_4 < 12 by omega]]
      refine lv_iload hx hb dX12_joined_31 (lv_at hl 0 rfl) ?_
      have hrow_10 : ∀ i : Nat, i < 12 → ([(a1, .inr (17, [.int 0, .ref a2, .ref a3, .ref a4, .long 0])), (a2, .inl (T 2, 12, .inr (.inr (.inr (.inr (fun _ => none)))))), (q_1, .inl (T 3, 12, .inr (.inr (.inr (.inr (fun i => if i < 12 then some (r_2 i) else none)))))), ((r_2 0), .inl (T 1, 12, .inl (fun _ => 0))), ((r_2 1), .inl (T 1, 12, .inl (fun _ => 0))), ((r_2 2), .inl (T 1, 12, .inl (fun _ => 0))), ((r_2 3), .inl (T 1, 12, .inl (fun _ => 0))), ((r_2 4), .inl (T 1, 12, .inl (fun _ => 0))), ((r_2 5), .inl (T 1, 12, .inl (fun _ => 0))), ((r_2 6), .inl (T 1, 12, .inl (fun _ => 0))), ((r_2 7), .inl (T 1, 12, .inl (fun _ => 0))), ((r_2 8), .inl (T 1, 12, .inl (fun _ => 0))), ((r_2 9), .inl (T 1, 12, .inl (fun _ => 0))), ((r_2 10), .inl (T 1, 12, .inl (fun _ => 0))), ((r_2 11), .inl (T 1, 12, .inl (fun _ => 0)))] : va_W)[3 + i]? = some (r_2 i, .inl (T 1, 12, .inl (fun _ => 0))) := by
        intro i hi
        rcases (show i = 0 ∨ i = 1 ∨ i = 2 ∨ i = 3 ∨ i = 4 ∨ i = 5 ∨ i = 6 ∨ i = 7 ∨ i = 8 ∨ i = 9 ∨ i = 10 ∨ i = 11 by omega) with rfl | rfl | rfl | rfl | rfl | rfl | rfl | rfl | rfl | rfl | rfl | rfl <;> rfl
      refine va_zald hx hb hK hP (3 + i_k_4) 1 (hrow_10 i_k_4 (by omega)) rfl (vp_in_nI (by omega) (by decide)) dX12_joined_33 ?_
      refine lv_topi (fun f_11 ef_11 => ?_)
      obtain rfl : f_11 = 0 := ef_11
      refine lv_if_eq (tgt := 58) hx hb dX12_joined_34 (by decide) (fun c_12 => ?_) (fun c_12 => absurd (by decide) c_12)
      refine lv_iconst (v := 0) hx hb dX12_joined_58 (by decide) ?_
      have hrow_13 : ∀ i : Nat, i < 12 → ([(a1, .inr (17, [.int 0, .ref a2, .ref a3, .ref a4, .long 0])), (a2, .inl (T 2, 12, .inr (.inr (.inr (.inr (fun _ => none)))))), (q_1, .inl (T 3, 12, .inr (.inr (.inr (.inr (fun i => if i < 12 then some (r_2 i) else none)))))), ((r_2 0), .inl (T 1, 12, .inl (fun _ => 0))), ((r_2 1), .inl (T 1, 12, .inl (fun _ => 0))), ((r_2 2), .inl (T 1, 12, .inl (fun _ => 0))), ((r_2 3), .inl (T 1, 12, .inl (fun _ => 0))), ((r_2 4), .inl (T 1, 12, .inl (fun _ => 0))), ((r_2 5), .inl (T 1, 12, .inl (fun _ => 0))), ((r_2 6), .inl (T 1, 12, .inl (fun _ => 0))), ((r_2 7), .inl (T 1, 12, .inl (fun _ => 0))), ((r_2 8), .inl (T 1, 12, .inl (fun _ => 0))), ((r_2 9), .inl (T 1, 12, .inl (fun _ => 0))), ((r_2 10), .inl (T 1, 12, .inl (fun _ => 0))), ((r_2 11), .inl (T 1, 12, .inl (fun _ => 0)))] : va_W)[3 + i]? = some (r_2 i, .inl (T 1, 12, .inl (fun _ => 0))) := by
        intro i hi
        rcases (show i = 0 ∨ i = 1 ∨ i = 2 ∨ i = 3 ∨ i = 4 ∨ i = 5 ∨ i = 6 ∨ i = 7 ∨ i = 8 ∨ i = 9 ∨ i = 10 ∨ i = 11 by omega) with rfl | rfl | rfl | rfl | rfl | rfl | rfl | rfl | rfl | rfl | rfl | rfl <;> rfl
      refine va_zast hx hb hK hP hD hS (3 + i_k_4) 1 (hrow_13 i_k_4 (by omega)) rfl (vp_in_nI (by omega) (by decide)) dX12_joined_59 (fun H locs hP hD hS => ?_)
      rw [xnrb0] at hP hD; rw [xz, xset (hrow_13 i_k_4 (by omega))] at hP hD
      refine lv_iinc (v := (nI (i_k_7 + 1))) (lv' := [(4, .int (nI (i_k_7 + 1))), (3, .int (nI i_k_4)), (2, .ref q_1), (0, .ref a1), (1, .int p1)]) hx hb dX12_joined_60 hl (k := 0) rfl (nI_1 _) (by decide) rfl (fun ls hl => ?_)
      refine lv_goto (tgt := 16) hx hb dX12_joined_63 (by decide) ?_
      exact ih_k_7 _ _ _ (by omega) ⟨hP, hD, hS, lv_sub hl [0, 1, 2, 3, 4] rfl⟩
set_option maxHeartbeats 4000000 in
set_option maxRecDepth 100000 in
theorem xcX12_all (l : Launch) (hst : l.stackTraces = false) (dC : Nat → ClassId) (dI : Nat → Nat → Nat) (T : Nat → ClassId) (a1 : Nat) (a2 : Nat) (a3 : Nat) (a4 : Nat) (sz : Nat) : Met l yX12_all wsX12_all ({ frames := 0, cells := 0, slots := 0, locals := 0 } : Room) (va_Pc [.ref a1] (fun U => xB dC dI T [(a1, .inr (17, [.int 0, .ref a2, .ref a3, .ref a4, .long 0])), (a2, .inl (T 2, 12, .inr (.inr (.inr (.inr (fun _ => none))))))] sz U)) (va_Qi (fun (r u : Int32) => r = u) (fun (u : Int32) (t : State) => 0 = u ∧ xE dC dI [(a1, .inr (17, [.int 0, .ref a2, .ref a3, .ref a4, .long 0])), (a2, .inl (T 2, 12, .inr (.inr (.inr (.inr (fun _ => none))))))] (va_A [(a1, .inr (17, [.int 0, .ref a2, .ref a3, .ref a4, .long 0])), (a2, .inl (T 2, 12, .inr (.inr (.inr (.inr (fun _ => none))))))] sz) t) (va_A [(a1, .inr (17, [.int 0, .ref a2, .ref a3, .ref a4, .long 0])), (a2, .inl (T 2, 12, .inr (.inr (.inr (.inr (fun _ => none))))))] sz)) 0 0 (va_A [(a1, .inr (17, [.int 0, .ref a2, .ref a3, .ref a4, .long 0])), (a2, .inl (T 2, 12, .inr (.inr (.inr (.inr (fun _ => none))))))] sz) := by
  refine Met.ofW (cc := cX12_all) (maxL := 3) (ret := (some .int)) (by decide +kernel) rfl ?_
  intro p e s m args below meth c s₁ B hml hv
  obtain ⟨rfl, hsz, hP, hK, hD0, hG⟩ := hv
  have hx := B.exec
  have hb := B.bytes
  have hr := B.returns
  have hts := atoms_spec (ws := wsX12_all) B.pre
  have hown : s.vm.findClass RX12 = some m.cls := findClass_of_methodNamed B.named
  have hlocks := B.notSynchronized
  have hin_X12 : ∀ w ∈ wsX120, w ∈ wsX12_all := by decide +kernel
  subst hsz
  have hD := hD0.self (sz := s.heap.size)
  generalize hAe : va_A [(a1, .inr (17, [.int 0, .ref a2, .ref a3, .ref a4, .long 0])), (a2, .inl (T 2, 12, .inr (.inr (.inr (.inr (fun _ => none))))))] s.heap.size = A at hD hG ⊢
  have hA : ∀ q : Nat, s.heap.size ≤ q → A q := fun q h => by rw [← hAe]; exact Or.inr h
  have hS : va_S A s.heap s.heap [] := va_S.rf
  have hl := lv_entry ([.ref a1]) (n := 3) (Nat.le_of_ble_eq_true rfl)
  rw [lg_entry_eq]
  generalize (lg_sl ([.ref a1]) ++ List.replicate (3 - (lg_sl ([.ref a1])).length) Slot.unset).toArray = ls at hl ⊢
  have hl : lv_has ls 3 [(0, .ref a1)] := hl
  refine lv_iconst (v := 0) hx hb dX12_all_0 (by decide) ?_
  refine lv_istore_n (lv' := [(1, .int 0), (0, .ref a1)]) hx hb dX12_all_1 rfl hl (by decide) rfl (fun ls hl => ?_)
  refine lv_iconst (v := 0) hx hb dX12_all_2 (by decide) ?_
  refine lv_istore_n (lv' := [(2, .int 0), (1, .int 0), (0, .ref a1)]) hx hb dX12_all_3 rfl hl (by decide) rfl (fun ls hl => ?_)
  refine xLoop (P := fun i_k_1 H locs ls => va_P (dC, dI) vwCl [(a1, .inr (17, [.int 0, .ref a2, .ref a3, .ref a4, .long 0])), (a2, .inl (T 2, 12, .inr (.inr (.inr (.inr (fun _ => none))))))] H ∧ va_D A [(a1, .inr (17, [.int 0, .ref a2, .ref a3, .ref a4, .long 0])), (a2, .inl (T 2, 12, .inr (.inr (.inr (.inr (fun _ => none))))))] ∧ va_S A s.heap H locs ∧ lv_has ls 3 [(2, .int (nI i_k_1)), (1, .int 0), (0, .ref a1)]) (N := 12) (fun i_k_1 H locs ls hi_k_1 hI ih_k_1 => ?_) (0) _ _ _ (by omega) ⟨hP, hD, hS, lv_sub hl [0, 1, 2] rfl⟩
  obtain ⟨hP, hD, hS, hl⟩ := hI
  refine lv_iload_n hx hb dX12_all_4 rfl (lv_at hl 0 rfl) ?_
  refine lv_bipush (v := 12) hx hb dX12_all_5 (by decide) ?_
  have hz_3 : (nI i_k_1).toInt = ((i_k_1 : Nat) : Int) := nI_toInt (by omega)
  refine lv_icmp_ge (tgt := 35) hx hb dX12_all_7 (by decide) (fun c_2 => ?_) (fun c_2 => ?_)
  · have nc_2 : 12 ≤ (nI i_k_1).toInt := (xi_le (by decide +kernel) rfl).mp c_2
    refine lv_iload_n hx hb dX12_all_35 rfl (lv_at hl 1 rfl) ?_
    have hP9 := hP.sub (ws' := [(a1, .inr (17, [.int 0, .ref a2, .ref a3, .ref a4, .long 0])), (a2, .inl (T 2, 12, .inr (.inr (.inr (.inr (fun _ => none))))))]) [0, 1] rfl
    have hD9 := hD.sub (ws' := [(a1, .inr (17, [.int 0, .ref a2, .ref a3, .ref a4, .long 0])), (a2, .inl (T 2, 12, .inr (.inr (.inr (.inr (fun _ => none))))))]) [0, 1] (by decide) rfl
    exact W.iret (v := 0) hx hb hr (fun t ht hW => ⟨⟨_, _, rfl, rfl, ⟨rfl, by rw [ht]; exact hP9, hD9⟩⟩, hS.F ht⟩) hS.2.2 dX12_all_36
  · have nc_2 : ¬ (12 ≤ (nI i_k_1).toInt) := mt (xi_le (by decide +kernel) rfl).mpr c_2
    refine lv_iload_n hx hb dX12_all_10 rfl (lv_at hl 1 rfl) ?_
    refine lv_aload_n hx hb dX12_all_11 rfl (lv_at hl 2 rfl) ?_
    refine va_get (D := (dC, dI)) (ci := 17) (v := .ref a2) (C := RX12) (T := TX12) (N := 5) hx hb hts hin_X12 hown hK hP 0 rfl rfl 1 (by decide) (hts (.fieldLink RX12 11 "NearestwardModel" "points" "[[I") (by decide +kernel)) (fun _ h9 => h9) rfl dX12_all_12 ?_
    refine lv_iload_n hx hb dX12_all_15 rfl (lv_at hl 0 rfl) ?_
    refine xAldq hx hb hK hP 1 2 rfl rfl (vp_in_nI (by omega) (by decide)) dX12_all_16 ?_
    refine lv_ifnonnullN hx hb dX12_all_17 ?_
    refine lv_iconst (v := 0) hx hb dX12_all_20 (by decide) ?_
    refine lv_goto (tgt := 27) hx hb dX12_all_21 (by decide) ?_
    refine lv_ior hx hb dX12_all_27 ?_
    refine lv_topi (fun f_4 ef_4 => ?_)
    obtain rfl : f_4 = 0 := ef_4.trans (by decide)
    refine lv_istore_n (lv' := [(1, .int 0), (2, .int (nI i_k_1)), (0, .ref a1)]) hx hb dX12_all_28 rfl hl (by decide) rfl (fun ls hl => ?_)
    refine lv_iinc (v := (nI (i_k_1 + 1))) (lv' := [(2, .int (nI (i_k_1 + 1))), (1, .int 0), (0, .ref a1)]) hx hb dX12_all_29 hl (k := 1) rfl (nI_1 _) (by decide) rfl (fun ls hl => ?_)
    refine lv_goto (tgt := 4) hx hb dX12_all_32 (by decide) ?_
    exact ih_k_1 _ _ _ (by omega) ⟨hP, hD, hS, lv_sub hl [0, 1, 2] rfl⟩
set_option maxHeartbeats 4000000 in
set_option maxRecDepth 100000 in
theorem xcX12_parts (l : Launch) (hst : l.stackTraces = false) (dC : Nat → ClassId) (dI : Nat → Nat → Nat) (T : Nat → ClassId) (a1 : Nat) (sz : Nat) (ra1 : Nat → Nat) : Met l yX12_parts wsX12_parts ({ frames := 0, cells := 0, slots := 0, locals := 0 } : Room) (va_Pc [.ref a1, .int 0] (fun U => xB dC dI T [(a1, .inl (T 3, 12, .inr (.inr (.inr (.inr (fun i => if i < 12 then some (ra1 i) else none))))))] sz U)) (va_Qi (fun (r u : Int32) => r = u) (fun (u : Int32) (t : State) => 0 = u ∧ xE dC dI [(a1, .inl (T 3, 12, .inr (.inr (.inr (.inr (fun i => if i < 12 then some (ra1 i) else none))))))] (va_A [(a1, .inl (T 3, 12, .inr (.inr (.inr (.inr (fun i => if i < 12 then some (ra1 i) else none))))))] sz) t) (va_A [(a1, .inl (T 3, 12, .inr (.inr (.inr (.inr (fun i => if i < 12 then some (ra1 i) else none))))))] sz)) 0 0 (va_A [(a1, .inl (T 3, 12, .inr (.inr (.inr (.inr (fun i => if i < 12 then some (ra1 i) else none))))))] sz) := by
  refine Met.ofW (cc := cX12_parts) (maxL := 8) (ret := (some .int)) (by decide +kernel) rfl ?_
  intro p e s m args below meth c s₁ B hml hv
  obtain ⟨rfl, hsz, hP, hK, hD0, hG⟩ := hv
  have hx := B.exec
  have hb := B.bytes
  have hr := B.returns
  have hts := atoms_spec (ws := wsX12_parts) B.pre
  have hown : s.vm.findClass RX12 = some m.cls := findClass_of_methodNamed B.named
  have hlocks := B.notSynchronized
  subst hsz
  have hD := hD0.self (sz := s.heap.size)
  generalize hAe : va_A [(a1, .inl (T 3, 12, .inr (.inr (.inr (.inr (fun i => if i < 12 then some (ra1 i) else none))))))] s.heap.size = A at hD hG ⊢
  have hA : ∀ q : Nat, s.heap.size ≤ q → A q := fun q h => by rw [← hAe]; exact Or.inr h
  have hS : va_S A s.heap s.heap [] := va_S.rf
  have hl := lv_entry ([.ref a1, .int 0]) (n := 8) (Nat.le_of_ble_eq_true rfl)
  rw [lg_entry_eq]
  generalize (lg_sl ([.ref a1, .int 0]) ++ List.replicate (8 - (lg_sl ([.ref a1, .int 0])).length) Slot.unset).toArray = ls at hl ⊢
  have hl : lv_has ls 8 [(0, .ref a1), (1, .int 0)] := hl
  refine lv_iconst (v := 0) hx hb dX12_parts_0 (by decide) ?_
  refine lv_istore_n (lv' := [(2, .int 0), (0, .ref a1), (1, .int 0)]) hx hb dX12_parts_1 rfl hl (by decide) rfl (fun ls hl => ?_)
  refine lv_iload_n hx hb dX12_parts_2 rfl (lv_at hl 2 rfl) ?_
  refine lv_istore_n (lv' := [(3, .int 0), (2, .int 0), (0, .ref a1), (1, .int 0)]) hx hb dX12_parts_3 rfl hl (by decide) rfl (fun ls hl => ?_)
  refine lv_iload_n hx hb dX12_parts_4 rfl (lv_at hl 0 rfl) ?_
  refine lv_if_eq (tgt := 109) hx hb dX12_parts_5 (by decide) (fun c_1 => ?_) (fun c_1 => absurd (by decide) c_1)
  refine lv_iload_n hx hb dX12_parts_109 rfl (lv_at hl 1 rfl) ?_
  have hP9 := hP.sub (ws' := [(a1, .inl (T 3, 12, .inr (.inr (.inr (.inr (fun i => if i < 12 then some (ra1 i) else none))))))]) [0] rfl
  have hD9 := hD.sub (ws' := [(a1, .inl (T 3, 12, .inr (.inr (.inr (.inr (fun i => if i < 12 then some (ra1 i) else none))))))]) [0] (by decide) rfl
  exact W.iret (v := 0) hx hb hr (fun t ht hW => ⟨⟨_, _, rfl, rfl, ⟨rfl, by rw [ht]; exact hP9, hD9⟩⟩, hS.F ht⟩) hS.2.2 dX12_parts_110
set_option maxHeartbeats 4000000 in
set_option maxRecDepth 100000 in
theorem xcX12_countHoles (l : Launch) (hst : l.stackTraces = false) (dC : Nat → ClassId) (dI : Nat → Nat → Nat) (T : Nat → ClassId) (a1 : Nat) (a2 : Nat) (a3 : Nat) (a4 : Nat) (sz : Nat) (p1 : Int32) : Met l yX12_countHoles wsX12_countHoles ({ frames := 5, cells := 13, slots := 156, locals := 117 } : Room) (va_Pc [.ref a1, .int p1] (fun U => xB dC dI T [(a1, .inr (17, [.int 0, .ref a2, .ref a3, .ref a4, .long 0])), (a2, .inl (T 2, 12, .inr (.inr (.inr (.inr (fun _ => none))))))] sz U)) (va_Qi (fun (r u : Int32) => r = u) (fun (u : Int32) (t : State) => ((((p1.toInt64).toInt < 0) ∨ ((¬ ((p1.toInt64).toInt < 0)) ∧ (((99999) : Int64).toInt < (p1.toInt64).toInt))) ∧ 0 = u ∧ xE dC dI [(a1, .inr (17, [.int 1, .ref a2, .ref a3, .ref a4, .long 0]))] (va_A [(a1, .inr (17, [.int 0, .ref a2, .ref a3, .ref a4, .long 0])), (a2, .inl (T 2, 12, .inr (.inr (.inr (.inr (fun _ => none))))))] sz) t) ∨ (((¬ ((p1.toInt64).toInt < 0)) ∧ (¬ (((99999) : Int64).toInt < (p1.toInt64).toInt))) ∧ 0 = u ∧ xE dC dI [(a1, .inr (17, [.int 0, .ref a2, .ref a3, .ref a4, .long 0]))] (va_A [(a1, .inr (17, [.int 0, .ref a2, .ref a3, .ref a4, .long 0])), (a2, .inl (T 2, 12, .inr (.inr (.inr (.inr (fun _ => none))))))] sz) t)) (va_A [(a1, .inr (17, [.int 0, .ref a2, .ref a3, .ref a4, .long 0])), (a2, .inl (T 2, 12, .inr (.inr (.inr (.inr (fun _ => none))))))] sz)) 13 156 (va_A [(a1, .inr (17, [.int 0, .ref a2, .ref a3, .ref a4, .long 0])), (a2, .inl (T 2, 12, .inr (.inr (.inr (.inr (fun _ => none))))))] sz) := by
  refine Met.ofW (cc := cX12_countHoles) (maxL := 7) (ret := (some .int)) (by decide +kernel) rfl ?_
  intro p e s m args below meth c s₁ B hml hv
  obtain ⟨rfl, hsz, hP, hK, hD0, hG⟩ := hv
  have hx := B.exec
  have hb := B.bytes
  have hr := B.returns
  have hts := atoms_spec (ws := wsX12_countHoles) B.pre
  have hown : s.vm.findClass RX12 = some m.cls := findClass_of_methodNamed B.named
  have hlocks := B.notSynchronized
  subst hsz
  have hD := hD0.self (sz := s.heap.size)
  generalize hAe : va_A [(a1, .inr (17, [.int 0, .ref a2, .ref a3, .ref a4, .long 0])), (a2, .inl (T 2, 12, .inr (.inr (.inr (.inr (fun _ => none))))))] s.heap.size = A at hD hG ⊢
  have hA : ∀ q : Nat, s.heap.size ≤ q → A q := fun q h => by rw [← hAe]; exact Or.inr h
  have hS : va_S A s.heap s.heap [] := va_S.rf
  have hl := lv_entry ([.ref a1, .int p1]) (n := 7) (Nat.le_of_ble_eq_true rfl)
  rw [lg_entry_eq]
  generalize (lg_sl ([.ref a1, .int p1]) ++ List.replicate (7 - (lg_sl ([.ref a1, .int p1])).length) Slot.unset).toArray = ls at hl ⊢
  have hl : lv_has ls 7 [(0, .ref a1), (1, .int p1)] := hl
  refine lv_aload_n hx hb dX12_countHoles_0 rfl (lv_at hl 0 rfl) ?_
  refine lv_iload_n hx hb dX12_countHoles_1 rfl (lv_at hl 1 rfl) ?_
  refine lv_i2l hx hb dX12_countHoles_2 rfl ?_
  refine lv_lconst (v := 0) hx hb dX12_countHoles_3 (by decide) ?_
  refine lv_ldc2 (v := 99999) hx hb hown (hts (.constantLong RX12 214 99999) (by decide +kernel)) dX12_countHoles_4 ?_
  have hPc := hP.sub (ws' := []) [] rfl
  have hDc := hD.sub (ws' := []) [] (by decide) rfl
  have hFc := va_free (wc := []) hD hS hA [] rfl
  refine va_calli (va_runS (As := [.long p1.toInt64, .long 0, .long 99999]) (rest := [.ref a1]) ⟨hx, hb, hml, hown, hts⟩ (xcX12_isBetween_v4 l hst dC dI T s.heap.size p1.toInt64 99999) (cwS 3 hts gX12_countHoles_X12_isBetween rfl rfl rfl (by decide +kernel) ⟨Nat.le_of_ble_eq_true rfl, Nat.le_of_ble_eq_true rfl⟩) ⟨xBlind, xCall hK hG hS hPc hDc hFc⟩ rfl rfl hl.1 rfl (lv_room (Nat.le_of_ble_eq_true rfl)) dX12_countHoles_7 ⟨Nat.le_of_ble_eq_true rfl, Nat.le_of_ble_eq_true rfl⟩) hS (fun q _ h => hFc q h) hFc (fun r_9 u t H locs ht hvm hw hB hz1 hk1 hS => ?_)
  subst hw
  rcases hB with ⟨c_1, hr_9, hP1, hD1⟩ | ⟨c_2, hr_9, hP1, hD1⟩
  · have hz_3 : (p1.toInt64).toInt = p1.toInt := Int32.toInt_toInt64 _
    have hz_4 : ((99999) : Int64).toInt = 99999 := by decide +kernel
    rw [ht] at hP1
    subst hr_9
    obtain ⟨hP, hD⟩ := va_join (wr := [(a1, .inr (17, [.int 0, .ref a2, .ref a3, .ref a4, .long 0])), (a2, .inl (T 2, 12, .inr (.inr (.inr (.inr (fun _ => none))))))]) (w1 := []) hP hD [] [0, 1] rfl rfl (by decide) (by decide) hk1 hFc hP1 hD1
    have hP : va_P (dC, dI) vwCl [(a1, .inr (17, [.int 0, .ref a2, .ref a3, .ref a4, .long 0])), (a2, .inl (T 2, 12, .inr (.inr (.inr (.inr (fun _ => none))))))] H := hP
    have hD : va_D A [(a1, .inr (17, [.int 0, .ref a2, .ref a3, .ref a4, .long 0])), (a2, .inl (T 2, 12, .inr (.inr (.inr (.inr (fun _ => none))))))] := hD
    clear hPc hDc hFc hP1 hD1 hk1 hz1 ht hvm
    refine lv_if_eq (tgt := 17) hx hb dX12_countHoles_10 (by decide) (fun c_5 => ?_) (fun c_5 => absurd (by decide) c_5)
    refine lv_iconst (v := 1) hx hb dX12_countHoles_17 (by decide) ?_
    have hPc := hP.sub (ws' := [(a1, .inr (17, [.int 0, .ref a2, .ref a3, .ref a4, .long 0]))]) [0] rfl
    have hDc := hD.sub (ws' := [(a1, .inr (17, [.int 0, .ref a2, .ref a3, .ref a4, .long 0]))]) [0] (by decide) rfl
    have hFc := va_free (wc := [(a1, .inr (17, [.int 0, .ref a2, .ref a3, .ref a4, .long 0]))]) hD hS hA [0] rfl
    refine va_calli (va_runV (As := [.int 1]) (rest := []) ⟨hx, hb, hml, hown, hts⟩ (xcX12_isWrong l hst dC dI T a1 a2 a3 a4 H.size) (cwV 1 hts gX12_countHoles_X12_isWrong rfl rfl rfl (by decide +kernel) ⟨Nat.le_of_ble_eq_true rfl, Nat.le_of_ble_eq_true rfl⟩) ⟨xBlind, va_recv hK hPc (ci := 17) (q0 := 0) rfl rfl, xCall hK hG hS hPc hDc hFc⟩ rfl rfl hl.1 rfl (lv_room (Nat.le_of_ble_eq_true rfl)) dX12_countHoles_18 ⟨Nat.le_of_ble_eq_true rfl, Nat.le_of_ble_eq_true rfl⟩) hS (fun q _ h => hFc q h) hFc (fun r_9 u t H locs ht hvm hw hB hz1 hk1 hS => ?_)
    subst hw
    rcases hB with ⟨hr_9, hP1, hD1⟩
    rw [ht] at hP1
    subst hr_9
    obtain ⟨hP, hD⟩ := va_join (wr := [(a2, .inl (T 2, 12, .inr (.inr (.inr (.inr (fun _ => none))))))]) (w1 := [(a1, .inr (17, [.int 1, .ref a2, .ref a3, .ref a4, .long 0]))]) hP hD [0] [1] rfl rfl (by decide) (by decide) hk1 hFc hP1 hD1
    have hP := hP.sub (ws' := [(a1, .inr (17, [.int 1, .ref a2, .ref a3, .ref a4, .long 0])), (a2, .inl (T 2, 12, .inr (.inr (.inr (.inr (fun _ => none))))))]) [1, 0] rfl
    have hD := hD.sub (ws' := [(a1, .inr (17, [.int 1, .ref a2, .ref a3, .ref a4, .long 0])), (a2, .inl (T 2, 12, .inr (.inr (.inr (.inr (fun _ => none))))))]) [1, 0] (by decide) rfl
    clear hPc hDc hFc hP1 hD1 hk1 hz1 ht hvm
    refine lv_if_eq (tgt := 26) hx hb dX12_countHoles_21 (by decide) (fun c_7 => absurd c_7 (by decide)) (fun c_7 => ?_)
    refine lv_iconst (v := 0) hx hb dX12_countHoles_24 (by decide) ?_
    have hP9 := hP.sub (ws' := [(a1, .inr (17, [.int 1, .ref a2, .ref a3, .ref a4, .long 0]))]) [0] rfl
    have hD9 := hD.sub (ws' := [(a1, .inr (17, [.int 1, .ref a2, .ref a3, .ref a4, .long 0]))]) [0] (by decide) rfl
    refine W.widen (k := 13) (n := 156) (Nat.le_of_ble_eq_true rfl) (Nat.le_of_ble_eq_true rfl) ?_
    exact W.iret (v := 0) hx hb hr (fun t ht hW => ⟨⟨_, _, rfl, rfl, (Or.inl ⟨c_1, rfl, by rw [ht]; exact hP9, hD9⟩)⟩, hS.F ht⟩) hS.2.2 dX12_countHoles_25
  · have hz_8 : (p1.toInt64).toInt = p1.toInt := Int32.toInt_toInt64 _
    have hz_9 : ((99999) : Int64).toInt = 99999 := by decide +kernel
    rw [ht] at hP1
    subst hr_9
    obtain ⟨hP, hD⟩ := va_join (wr := [(a1, .inr (17, [.int 0, .ref a2, .ref a3, .ref a4, .long 0])), (a2, .inl (T 2, 12, .inr (.inr (.inr (.inr (fun _ => none))))))]) (w1 := []) hP hD [] [0, 1] rfl rfl (by decide) (by decide) hk1 hFc hP1 hD1
    have hP : va_P (dC, dI) vwCl [(a1, .inr (17, [.int 0, .ref a2, .ref a3, .ref a4, .long 0])), (a2, .inl (T 2, 12, .inr (.inr (.inr (.inr (fun _ => none))))))] H := hP
    have hD : va_D A [(a1, .inr (17, [.int 0, .ref a2, .ref a3, .ref a4, .long 0])), (a2, .inl (T 2, 12, .inr (.inr (.inr (.inr (fun _ => none))))))] := hD
    clear hPc hDc hFc hP1 hD1 hk1 hz1 ht hvm
    refine lv_if_eq (tgt := 17) hx hb dX12_countHoles_10 (by decide) (fun c_10 => absurd c_10 (by decide)) (fun c_10 => ?_)
    refine lv_iconst (v := 0) hx hb dX12_countHoles_13 (by decide) ?_
    refine lv_goto (tgt := 18) hx hb dX12_countHoles_14 (by decide) ?_
    have hPc := hP.sub (ws' := [(a1, .inr (17, [.int 0, .ref a2, .ref a3, .ref a4, .long 0]))]) [0] rfl
    have hDc := hD.sub (ws' := [(a1, .inr (17, [.int 0, .ref a2, .ref a3, .ref a4, .long 0]))]) [0] (by decide) rfl
    have hFc := va_free (wc := [(a1, .inr (17, [.int 0, .ref a2, .ref a3, .ref a4, .long 0]))]) hD hS hA [0] rfl
    refine va_calli (va_runV (As := [.int 0]) (rest := []) ⟨hx, hb, hml, hown, hts⟩ (xcX12_isWrong_v2 l hst dC dI T a1 a2 a3 a4 H.size) (cwV 1 hts gX12_countHoles_X12_isWrong rfl rfl rfl (by decide +kernel) ⟨Nat.le_of_ble_eq_true rfl, Nat.le_of_ble_eq_true rfl⟩) ⟨xBlind, va_recv hK hPc (ci := 17) (q0 := 0) rfl rfl, xCall hK hG hS hPc hDc hFc⟩ rfl rfl hl.1 rfl (lv_room (Nat.le_of_ble_eq_true rfl)) dX12_countHoles_18 ⟨Nat.le_of_ble_eq_true rfl, Nat.le_of_ble_eq_true rfl⟩) hS (fun q _ h => hFc q h) hFc (fun r_9 u t H locs ht hvm hw hB hz1 hk1 hS => ?_)
    subst hw
    rcases hB with ⟨hr_9, hP1, hD1⟩
    rw [ht] at hP1
    subst hr_9
    obtain ⟨hP, hD⟩ := va_join (wr := [(a2, .inl (T 2, 12, .inr (.inr (.inr (.inr (fun _ => none))))))]) (w1 := [(a1, .inr (17, [.int 0, .ref a2, .ref a3, .ref a4, .long 0]))]) hP hD [0] [1] rfl rfl (by decide) (by decide) hk1 hFc hP1 hD1
    have hP := hP.sub (ws' := [(a1, .inr (17, [.int 0, .ref a2, .ref a3, .ref a4, .long 0])), (a2, .inl (T 2, 12, .inr (.inr (.inr (.inr (fun _ => none))))))]) [1, 0] rfl
    have hD := hD.sub (ws' := [(a1, .inr (17, [.int 0, .ref a2, .ref a3, .ref a4, .long 0])), (a2, .inl (T 2, 12, .inr (.inr (.inr (.inr (fun _ => none))))))]) [1, 0] (by decide) rfl
    clear hPc hDc hFc hP1 hD1 hk1 hz1 ht hvm
    refine lv_if_eq (tgt := 26) hx hb dX12_countHoles_21 (by decide) (fun c_12 => ?_) (fun c_12 => absurd (by decide) c_12)
    refine lv_aload_n hx hb dX12_countHoles_26 rfl (lv_at hl 0 rfl) ?_
    refine lv_iload_n hx hb dX12_countHoles_27 rfl (lv_at hl 1 rfl) ?_
    have hPc := hP.sub (ws' := [(a1, .inr (17, [.int 0, .ref a2, .ref a3, .ref a4, .long 0])), (a2, .inl (T 2, 12, .inr (.inr (.inr (.inr (fun _ => none))))))]) [0, 1] rfl
    have hDc := hD.sub (ws' := [(a1, .inr (17, [.int 0, .ref a2, .ref a3, .ref a4, .long 0])), (a2, .inl (T 2, 12, .inr (.inr (.inr (.inr (fun _ => none))))))]) [0, 1] (by decide) rfl
    have hFc := va_free (wc := [(a1, .inr (17, [.int 0, .ref a2, .ref a3, .ref a4, .long 0])), (a2, .inl (T 2, 12, .inr (.inr (.inr (.inr (fun _ => none))))))]) hD hS hA [0, 1] rfl
    refine va_callr (va_runV (As := [.int p1]) (rest := []) ⟨hx, hb, hml, hown, hts⟩ (xcX12_joined l hst dC dI T a1 a2 a3 a4 H.size p1) (cwV 1 hts gX12_countHoles_X12_joined rfl rfl rfl (by decide +kernel) ⟨Nat.le_of_ble_eq_true rfl, Nat.le_of_ble_eq_true rfl⟩) ⟨xBlind, va_recv hK hPc (ci := 17) (q0 := 0) rfl rfl, xCall hK hG hS hPc hDc hFc⟩ rfl rfl hl.1 rfl (lv_room (Nat.le_of_ble_eq_true rfl)) dX12_countHoles_28 ⟨Nat.le_of_ble_eq_true rfl, Nat.le_of_ble_eq_true rfl⟩) hS (fun q _ h => hFc q h) hFc (fun u ra t H locs ht hvm hw hB hz1 hk1 hS => ?_)
    rcases hB with ⟨q_13, r_14, hr_9, hP1, hD1⟩
    rw [ht] at hP1
    subst hr_9
    obtain ⟨hP, hD⟩ := va_join (wr := []) (w1 := [(a1, .inr (17, [.int 0, .ref a2, .ref a3, .ref a4, .long 0])), (a2, .inl (T 2, 12, .inr (.inr (.inr (.inr (fun _ => none)))))), (q_13, .inl (T 3, 12, .inr (.inr (.inr (.inr (fun i => if i < 12 then some (r_14 i) else none)))))), ((r_14 0), .inl (T 1, 12, .inl (fun _ => 0))), ((r_14 1), .inl (T 1, 12, .inl (fun _ => 0))), ((r_14 2), .inl (T 1, 12, .inl (fun _ => 0))), ((r_14 3), .inl (T 1, 12, .inl (fun _ => 0))), ((r_14 4), .inl (T 1, 12, .inl (fun _ => 0))), ((r_14 5), .inl (T 1, 12, .inl (fun _ => 0))), ((r_14 6), .inl (T 1, 12, .inl (fun _ => 0))), ((r_14 7), .inl (T 1, 12, .inl (fun _ => 0))), ((r_14 8), .inl (T 1, 12, .inl (fun _ => 0))), ((r_14 9), .inl (T 1, 12, .inl (fun _ => 0))), ((r_14 10), .inl (T 1, 12, .inl (fun _ => 0))), ((r_14 11), .inl (T 1, 12, .inl (fun _ => 0)))]) hP hD [0, 1] [] rfl rfl (by decide) (by decide) hk1 hFc hP1 hD1
    have hP : va_P (dC, dI) vwCl [(a1, .inr (17, [.int 0, .ref a2, .ref a3, .ref a4, .long 0])), (a2, .inl (T 2, 12, .inr (.inr (.inr (.inr (fun _ => none)))))), (q_13, .inl (T 3, 12, .inr (.inr (.inr (.inr (fun i => if i < 12 then some (r_14 i) else none)))))), ((r_14 0), .inl (T 1, 12, .inl (fun _ => 0))), ((r_14 1), .inl (T 1, 12, .inl (fun _ => 0))), ((r_14 2), .inl (T 1, 12, .inl (fun _ => 0))), ((r_14 3), .inl (T 1, 12, .inl (fun _ => 0))), ((r_14 4), .inl (T 1, 12, .inl (fun _ => 0))), ((r_14 5), .inl (T 1, 12, .inl (fun _ => 0))), ((r_14 6), .inl (T 1, 12, .inl (fun _ => 0))), ((r_14 7), .inl (T 1, 12, .inl (fun _ => 0))), ((r_14 8), .inl (T 1, 12, .inl (fun _ => 0))), ((r_14 9), .inl (T 1, 12, .inl (fun _ => 0))), ((r_14 10), .inl (T 1, 12, .inl (fun _ => 0))), ((r_14 11), .inl (T 1, 12, .inl (fun _ => 0)))] H := hP
    have hD : va_D A [(a1, .inr (17, [.int 0, .ref a2, .ref a3, .ref a4, .long 0])), (a2, .inl (T 2, 12, .inr (.inr (.inr (.inr (fun _ => none)))))), (q_13, .inl (T 3, 12, .inr (.inr (.inr (.inr (fun i => if i < 12 then some (r_14 i) else none)))))), ((r_14 0), .inl (T 1, 12, .inl (fun _ => 0))), ((r_14 1), .inl (T 1, 12, .inl (fun _ => 0))), ((r_14 2), .inl (T 1, 12, .inl (fun _ => 0))), ((r_14 3), .inl (T 1, 12, .inl (fun _ => 0))), ((r_14 4), .inl (T 1, 12, .inl (fun _ => 0))), ((r_14 5), .inl (T 1, 12, .inl (fun _ => 0))), ((r_14 6), .inl (T 1, 12, .inl (fun _ => 0))), ((r_14 7), .inl (T 1, 12, .inl (fun _ => 0))), ((r_14 8), .inl (T 1, 12, .inl (fun _ => 0))), ((r_14 9), .inl (T 1, 12, .inl (fun _ => 0))), ((r_14 10), .inl (T 1, 12, .inl (fun _ => 0))), ((r_14 11), .inl (T 1, 12, .inl (fun _ => 0)))] := hD
    clear hPc hDc hFc hP1 hD1 hk1 hz1 ht hvm
    refine lv_astore_n (lv' := [(2, .ref q_13), (0, .ref a1), (1, .int p1)]) hx hb dX12_countHoles_31 rfl hl (by decide) rfl (fun ls hl => ?_)
    refine lv_aload_n hx hb dX12_countHoles_32 rfl (lv_at hl 0 rfl) ?_
    refine lv_aload_n hx hb dX12_countHoles_33 rfl (lv_at hl 1 rfl) ?_
    have hPc := hP.sub (ws' := [(a1, .inr (17, [.int 0, .ref a2, .ref a3, .ref a4, .long 0])), (a2, .inl (T 2, 12, .inr (.inr (.inr (.inr (fun _ => none))))))]) [0, 1] rfl
    have hDc := hD.sub (ws' := [(a1, .inr (17, [.int 0, .ref a2, .ref a3, .ref a4, .long 0])), (a2, .inl (T 2, 12, .inr (.inr (.inr (.inr (fun _ => none))))))]) [0, 1] (by decide) rfl
    have hFc := va_free (wc := [(a1, .inr (17, [.int 0, .ref a2, .ref a3, .ref a4, .long 0])), (a2, .inl (T 2, 12, .inr (.inr (.inr (.inr (fun _ => none))))))]) hD hS hA [0, 1] rfl
    refine va_calli (va_runV (As := []) (rest := [.ref q_13]) ⟨hx, hb, hml, hown, hts⟩ (xcX12_all l hst dC dI T a1 a2 a3 a4 H.size) (cwV 0 hts gX12_countHoles_X12_all rfl rfl rfl (by decide +kernel) ⟨Nat.le_of_ble_eq_true rfl, Nat.le_of_ble_eq_true rfl⟩) ⟨xBlind, va_recv hK hPc (ci := 17) (q0 := 0) rfl rfl, xCall hK hG hS hPc hDc hFc⟩ rfl rfl hl.1 rfl (lv_room (Nat.le_of_ble_eq_true rfl)) dX12_countHoles_34 ⟨Nat.le_of_ble_eq_true rfl, Nat.le_of_ble_eq_true rfl⟩) hS (fun q _ h => hFc q h) hFc (fun r_9 u t H locs ht hvm hw hB hz1 hk1 hS => ?_)
    subst hw
    rcases hB with ⟨hr_9, hP1, hD1⟩
    rw [ht] at hP1
    subst hr_9
    obtain ⟨hP, hD⟩ := va_join (wr := [(q_13, .inl (T 3, 12, .inr (.inr (.inr (.inr (fun i => if i < 12 then some (r_14 i) else none)))))), ((r_14 0), .inl (T 1, 12, .inl (fun _ => 0))), ((r_14 1), .inl (T 1, 12, .inl (fun _ => 0))), ((r_14 2), .inl (T 1, 12, .inl (fun _ => 0))), ((r_14 3), .inl (T 1, 12, .inl (fun _ => 0))), ((r_14 4), .inl (T 1, 12, .inl (fun _ => 0))), ((r_14 5), .inl (T 1, 12, .inl (fun _ => 0))), ((r_14 6), .inl (T 1, 12, .inl (fun _ => 0))), ((r_14 7), .inl (T 1, 12, .inl (fun _ => 0))), ((r_14 8), .inl (T 1, 12, .inl (fun _ => 0))), ((r_14 9), .inl (T 1, 12, .inl (fun _ => 0))), ((r_14 10), .inl (T 1, 12, .inl (fun _ => 0))), ((r_14 11), .inl (T 1, 12, .inl (fun _ => 0)))]) (w1 := [(a1, .inr (17, [.int 0, .ref a2, .ref a3, .ref a4, .long 0])), (a2, .inl (T 2, 12, .inr (.inr (.inr (.inr (fun _ => none))))))]) hP hD [0, 1] [2, 3, 4, 5, 6, 7, 8, 9, 10, 11, 12, 13, 14] rfl rfl (by decide) (by decide) hk1 hFc hP1 hD1
    have hP := hP.sub (ws' := [(a1, .inr (17, [.int 0, .ref a2, .ref a3, .ref a4, .long 0])), (a2, .inl (T 2, 12, .inr (.inr (.inr (.inr (fun _ => none)))))), (q_13, .inl (T 3, 12, .inr (.inr (.inr (.inr (fun i => if i < 12 then some (r_14 i) else none)))))), ((r_14 0), .inl (T 1, 12, .inl (fun _ => 0))), ((r_14 1), .inl (T 1, 12, .inl (fun _ => 0))), ((r_14 2), .inl (T 1, 12, .inl (fun _ => 0))), ((r_14 3), .inl (T 1, 12, .inl (fun _ => 0))), ((r_14 4), .inl (T 1, 12, .inl (fun _ => 0))), ((r_14 5), .inl (T 1, 12, .inl (fun _ => 0))), ((r_14 6), .inl (T 1, 12, .inl (fun _ => 0))), ((r_14 7), .inl (T 1, 12, .inl (fun _ => 0))), ((r_14 8), .inl (T 1, 12, .inl (fun _ => 0))), ((r_14 9), .inl (T 1, 12, .inl (fun _ => 0))), ((r_14 10), .inl (T 1, 12, .inl (fun _ => 0))), ((r_14 11), .inl (T 1, 12, .inl (fun _ => 0)))]) [13, 14, 0, 1, 2, 3, 4, 5, 6, 7, 8, 9, 10, 11, 12] rfl
    have hD := hD.sub (ws' := [(a1, .inr (17, [.int 0, .ref a2, .ref a3, .ref a4, .long 0])), (a2, .inl (T 2, 12, .inr (.inr (.inr (.inr (fun _ => none)))))), (q_13, .inl (T 3, 12, .inr (.inr (.inr (.inr (fun i => if i < 12 then some (r_14 i) else none)))))), ((r_14 0), .inl (T 1, 12, .inl (fun _ => 0))), ((r_14 1), .inl (T 1, 12, .inl (fun _ => 0))), ((r_14 2), .inl (T 1, 12, .inl (fun _ => 0))), ((r_14 3), .inl (T 1, 12, .inl (fun _ => 0))), ((r_14 4), .inl (T 1, 12, .inl (fun _ => 0))), ((r_14 5), .inl (T 1, 12, .inl (fun _ => 0))), ((r_14 6), .inl (T 1, 12, .inl (fun _ => 0))), ((r_14 7), .inl (T 1, 12, .inl (fun _ => 0))), ((r_14 8), .inl (T 1, 12, .inl (fun _ => 0))), ((r_14 9), .inl (T 1, 12, .inl (fun _ => 0))), ((r_14 10), .inl (T 1, 12, .inl (fun _ => 0))), ((r_14 11), .inl (T 1, 12, .inl (fun _ => 0)))]) [13, 14, 0, 1, 2, 3, 4, 5, 6, 7, 8, 9, 10, 11, 12] (by decide) rfl
    clear hPc hDc hFc hP1 hD1 hk1 hz1 ht hvm
    have hPc := hP.sub (ws' := [(q_13, .inl (T 3, 12, .inr (.inr (.inr (.inr (fun i => if i < 12 then some (r_14 i) else none))))))]) [2] rfl
    have hDc := hD.sub (ws' := [(q_13, .inl (T 3, 12, .inr (.inr (.inr (.inr (fun i => if i < 12 then some (r_14 i) else none))))))]) [2] (by decide) rfl
    have hFc := va_free (wc := [(q_13, .inl (T 3, 12, .inr (.inr (.inr (.inr (fun i => if i < 12 then some (r_14 i) else none))))))]) hD hS hA [2] rfl
    refine va_calli (va_runS (As := [.ref q_13, .int 0]) (rest := []) ⟨hx, hb, hml, hown, hts⟩ (xcX12_parts l hst dC dI T q_13 H.size r_14) (cwS 2 hts gX12_countHoles_X12_parts rfl rfl rfl (by decide +kernel) ⟨Nat.le_of_ble_eq_true rfl, Nat.le_of_ble_eq_true rfl⟩) ⟨xBlind, xCall hK hG hS hPc hDc hFc⟩ rfl rfl hl.1 rfl (lv_room (Nat.le_of_ble_eq_true rfl)) dX12_countHoles_37 ⟨Nat.le_of_ble_eq_true rfl, Nat.le_of_ble_eq_true rfl⟩) hS (fun q _ h => hFc q h) hFc (fun r_9 u t H locs ht hvm hw hB hz1 hk1 hS => ?_)
    subst hw
    rcases hB with ⟨hr_9, hP1, hD1⟩
    rw [ht] at hP1
    subst hr_9
    obtain ⟨hP, hD⟩ := va_join (wr := [(a1, .inr (17, [.int 0, .ref a2, .ref a3, .ref a4, .long 0])), (a2, .inl (T 2, 12, .inr (.inr (.inr (.inr (fun _ => none)))))), ((r_14 0), .inl (T 1, 12, .inl (fun _ => 0))), ((r_14 1), .inl (T 1, 12, .inl (fun _ => 0))), ((r_14 2), .inl (T 1, 12, .inl (fun _ => 0))), ((r_14 3), .inl (T 1, 12, .inl (fun _ => 0))), ((r_14 4), .inl (T 1, 12, .inl (fun _ => 0))), ((r_14 5), .inl (T 1, 12, .inl (fun _ => 0))), ((r_14 6), .inl (T 1, 12, .inl (fun _ => 0))), ((r_14 7), .inl (T 1, 12, .inl (fun _ => 0))), ((r_14 8), .inl (T 1, 12, .inl (fun _ => 0))), ((r_14 9), .inl (T 1, 12, .inl (fun _ => 0))), ((r_14 10), .inl (T 1, 12, .inl (fun _ => 0))), ((r_14 11), .inl (T 1, 12, .inl (fun _ => 0)))]) (w1 := [(q_13, .inl (T 3, 12, .inr (.inr (.inr (.inr (fun i => if i < 12 then some (r_14 i) else none))))))]) hP hD [2] [0, 1, 3, 4, 5, 6, 7, 8, 9, 10, 11, 12, 13, 14] rfl rfl (by decide) (by decide) hk1 hFc hP1 hD1
    have hP := hP.sub (ws' := [(a1, .inr (17, [.int 0, .ref a2, .ref a3, .ref a4, .long 0])), (a2, .inl (T 2, 12, .inr (.inr (.inr (.inr (fun _ => none)))))), (q_13, .inl (T 3, 12, .inr (.inr (.inr (.inr (fun i => if i < 12 then some (r_14 i) else none)))))), ((r_14 0), .inl (T 1, 12, .inl (fun _ => 0))), ((r_14 1), .inl (T 1, 12, .inl (fun _ => 0))), ((r_14 2), .inl (T 1, 12, .inl (fun _ => 0))), ((r_14 3), .inl (T 1, 12, .inl (fun _ => 0))), ((r_14 4), .inl (T 1, 12, .inl (fun _ => 0))), ((r_14 5), .inl (T 1, 12, .inl (fun _ => 0))), ((r_14 6), .inl (T 1, 12, .inl (fun _ => 0))), ((r_14 7), .inl (T 1, 12, .inl (fun _ => 0))), ((r_14 8), .inl (T 1, 12, .inl (fun _ => 0))), ((r_14 9), .inl (T 1, 12, .inl (fun _ => 0))), ((r_14 10), .inl (T 1, 12, .inl (fun _ => 0))), ((r_14 11), .inl (T 1, 12, .inl (fun _ => 0)))]) [0, 1, 14, 2, 3, 4, 5, 6, 7, 8, 9, 10, 11, 12, 13] rfl
    have hD := hD.sub (ws' := [(a1, .inr (17, [.int 0, .ref a2, .ref a3, .ref a4, .long 0])), (a2, .inl (T 2, 12, .inr (.inr (.inr (.inr (fun _ => none)))))), (q_13, .inl (T 3, 12, .inr (.inr (.inr (.inr (fun i => if i < 12 then some (r_14 i) else none)))))), ((r_14 0), .inl (T 1, 12, .inl (fun _ => 0))), ((r_14 1), .inl (T 1, 12, .inl (fun _ => 0))), ((r_14 2), .inl (T 1, 12, .inl (fun _ => 0))), ((r_14 3), .inl (T 1, 12, .inl (fun _ => 0))), ((r_14 4), .inl (T 1, 12, .inl (fun _ => 0))), ((r_14 5), .inl (T 1, 12, .inl (fun _ => 0))), ((r_14 6), .inl (T 1, 12, .inl (fun _ => 0))), ((r_14 7), .inl (T 1, 12, .inl (fun _ => 0))), ((r_14 8), .inl (T 1, 12, .inl (fun _ => 0))), ((r_14 9), .inl (T 1, 12, .inl (fun _ => 0))), ((r_14 10), .inl (T 1, 12, .inl (fun _ => 0))), ((r_14 11), .inl (T 1, 12, .inl (fun _ => 0)))]) [0, 1, 14, 2, 3, 4, 5, 6, 7, 8, 9, 10, 11, 12, 13] (by decide) rfl
    clear hPc hDc hFc hP1 hD1 hk1 hz1 ht hvm
    refine lv_aload_n hx hb dX12_countHoles_40 rfl (lv_at hl 1 rfl) ?_
    have hPc := hP.sub (ws' := [(a1, .inr (17, [.int 0, .ref a2, .ref a3, .ref a4, .long 0])), (a2, .inl (T 2, 12, .inr (.inr (.inr (.inr (fun _ => none))))))]) [0, 1] rfl
    have hDc := hD.sub (ws' := [(a1, .inr (17, [.int 0, .ref a2, .ref a3, .ref a4, .long 0])), (a2, .inl (T 2, 12, .inr (.inr (.inr (.inr (fun _ => none))))))]) [0, 1] (by decide) rfl
    have hFc := va_free (wc := [(a1, .inr (17, [.int 0, .ref a2, .ref a3, .ref a4, .long 0])), (a2, .inl (T 2, 12, .inr (.inr (.inr (.inr (fun _ => none))))))]) hD hS hA [0, 1] rfl
    refine va_calli (va_runV (As := []) (rest := [.int 0]) ⟨hx, hb, hml, hown, hts⟩ (xcX12_many l hst dC dI T a1 a2 a3 a4 H.size) (cwV 0 hts gX12_countHoles_X12_many rfl rfl rfl (by decide +kernel) ⟨Nat.le_of_ble_eq_true rfl, Nat.le_of_ble_eq_true rfl⟩) ⟨xBlind, va_recv hK hPc (ci := 17) (q0 := 0) rfl rfl, xCall hK hG hS hPc hDc hFc⟩ rfl rfl hl.1 rfl (lv_room (Nat.le_of_ble_eq_true rfl)) dX12_countHoles_41 ⟨Nat.le_of_ble_eq_true rfl, Nat.le_of_ble_eq_true rfl⟩) hS (fun q _ h => hFc q h) hFc (fun r_9 u t H locs ht hvm hw hB hz1 hk1 hS => ?_)
    subst hw
    rcases hB with ⟨hr_9, hP1, hD1⟩
    rw [ht] at hP1
    subst hr_9
    obtain ⟨hP, hD⟩ := va_join (wr := [(q_13, .inl (T 3, 12, .inr (.inr (.inr (.inr (fun i => if i < 12 then some (r_14 i) else none)))))), ((r_14 0), .inl (T 1, 12, .inl (fun _ => 0))), ((r_14 1), .inl (T 1, 12, .inl (fun _ => 0))), ((r_14 2), .inl (T 1, 12, .inl (fun _ => 0))), ((r_14 3), .inl (T 1, 12, .inl (fun _ => 0))), ((r_14 4), .inl (T 1, 12, .inl (fun _ => 0))), ((r_14 5), .inl (T 1, 12, .inl (fun _ => 0))), ((r_14 6), .inl (T 1, 12, .inl (fun _ => 0))), ((r_14 7), .inl (T 1, 12, .inl (fun _ => 0))), ((r_14 8), .inl (T 1, 12, .inl (fun _ => 0))), ((r_14 9), .inl (T 1, 12, .inl (fun _ => 0))), ((r_14 10), .inl (T 1, 12, .inl (fun _ => 0))), ((r_14 11), .inl (T 1, 12, .inl (fun _ => 0)))]) (w1 := [(a1, .inr (17, [.int 0, .ref a2, .ref a3, .ref a4, .long 0])), (a2, .inl (T 2, 12, .inr (.inr (.inr (.inr (fun _ => none))))))]) hP hD [0, 1] [2, 3, 4, 5, 6, 7, 8, 9, 10, 11, 12, 13, 14] rfl rfl (by decide) (by decide) hk1 hFc hP1 hD1
    have hP := hP.sub (ws' := [(a1, .inr (17, [.int 0, .ref a2, .ref a3, .ref a4, .long 0])), (a2, .inl (T 2, 12, .inr (.inr (.inr (.inr (fun _ => none)))))), (q_13, .inl (T 3, 12, .inr (.inr (.inr (.inr (fun i => if i < 12 then some (r_14 i) else none)))))), ((r_14 0), .inl (T 1, 12, .inl (fun _ => 0))), ((r_14 1), .inl (T 1, 12, .inl (fun _ => 0))), ((r_14 2), .inl (T 1, 12, .inl (fun _ => 0))), ((r_14 3), .inl (T 1, 12, .inl (fun _ => 0))), ((r_14 4), .inl (T 1, 12, .inl (fun _ => 0))), ((r_14 5), .inl (T 1, 12, .inl (fun _ => 0))), ((r_14 6), .inl (T 1, 12, .inl (fun _ => 0))), ((r_14 7), .inl (T 1, 12, .inl (fun _ => 0))), ((r_14 8), .inl (T 1, 12, .inl (fun _ => 0))), ((r_14 9), .inl (T 1, 12, .inl (fun _ => 0))), ((r_14 10), .inl (T 1, 12, .inl (fun _ => 0))), ((r_14 11), .inl (T 1, 12, .inl (fun _ => 0)))]) [13, 14, 0, 1, 2, 3, 4, 5, 6, 7, 8, 9, 10, 11, 12] rfl
    have hD := hD.sub (ws' := [(a1, .inr (17, [.int 0, .ref a2, .ref a3, .ref a4, .long 0])), (a2, .inl (T 2, 12, .inr (.inr (.inr (.inr (fun _ => none)))))), (q_13, .inl (T 3, 12, .inr (.inr (.inr (.inr (fun i => if i < 12 then some (r_14 i) else none)))))), ((r_14 0), .inl (T 1, 12, .inl (fun _ => 0))), ((r_14 1), .inl (T 1, 12, .inl (fun _ => 0))), ((r_14 2), .inl (T 1, 12, .inl (fun _ => 0))), ((r_14 3), .inl (T 1, 12, .inl (fun _ => 0))), ((r_14 4), .inl (T 1, 12, .inl (fun _ => 0))), ((r_14 5), .inl (T 1, 12, .inl (fun _ => 0))), ((r_14 6), .inl (T 1, 12, .inl (fun _ => 0))), ((r_14 7), .inl (T 1, 12, .inl (fun _ => 0))), ((r_14 8), .inl (T 1, 12, .inl (fun _ => 0))), ((r_14 9), .inl (T 1, 12, .inl (fun _ => 0))), ((r_14 10), .inl (T 1, 12, .inl (fun _ => 0))), ((r_14 11), .inl (T 1, 12, .inl (fun _ => 0)))]) [13, 14, 0, 1, 2, 3, 4, 5, 6, 7, 8, 9, 10, 11, 12] (by decide) rfl
    clear hPc hDc hFc hP1 hD1 hk1 hz1 ht hvm
    refine lv_isub hx hb dX12_countHoles_44 ?_
    refine lv_topi (fun f_19 ef_19 => ?_)
    obtain rfl : f_19 = 0 := ef_19.trans (by decide)
    refine lv_istore_n (lv' := [(3, .int 0), (2, .ref q_13), (0, .ref a1), (1, .int p1)]) hx hb dX12_countHoles_45 rfl hl (by decide) rfl (fun ls hl => ?_)
    refine lv_iconst (v := 0) hx hb dX12_countHoles_46 (by decide) ?_
    refine lv_istore (lv' := [(4, .int 0), (3, .int 0), (2, .ref q_13), (0, .ref a1), (1, .int p1)]) hx hb dX12_countHoles_47 hl (by decide) rfl (fun ls hl => ?_)
    refine xLoop (P := fun i_k_20 H locs ls => va_P (dC, dI) vwCl [(a1, .inr (17, [.int 0, .ref a2, .ref a3, .ref a4, .long 0])), (a2, .inl (T 2, 12, .inr (.inr (.inr (.inr (fun _ => none)))))), (q_13, .inl (T 3, 12, .inr (.inr (.inr (.inr (fun i => if i < 12 then some (r_14 i) else none)))))), ((r_14 0), .inl (T 1, 12, .inl (fun _ => 0))), ((r_14 1), .inl (T 1, 12, .inl (fun _ => 0))), ((r_14 2), .inl (T 1, 12, .inl (fun _ => 0))), ((r_14 3), .inl (T 1, 12, .inl (fun _ => 0))), ((r_14 4), .inl (T 1, 12, .inl (fun _ => 0))), ((r_14 5), .inl (T 1, 12, .inl (fun _ => 0))), ((r_14 6), .inl (T 1, 12, .inl (fun _ => 0))), ((r_14 7), .inl (T 1, 12, .inl (fun _ => 0))), ((r_14 8), .inl (T 1, 12, .inl (fun _ => 0))), ((r_14 9), .inl (T 1, 12, .inl (fun _ => 0))), ((r_14 10), .inl (T 1, 12, .inl (fun _ => 0))), ((r_14 11), .inl (T 1, 12, .inl (fun _ => 0)))] H ∧ va_D A [(a1, .inr (17, [.int 0, .ref a2, .ref a3, .ref a4, .long 0])), (a2, .inl (T 2, 12, .inr (.inr (.inr (.inr (fun _ => none)))))), (q_13, .inl (T 3, 12, .inr (.inr (.inr (.inr (fun i => if i < 12 then some (r_14 i) else none)))))), ((r_14 0), .inl (T 1, 12, .inl (fun _ => 0))), ((r_14 1), .inl (T 1, 12, .inl (fun _ => 0))), ((r_14 2), .inl (T 1, 12, .inl (fun _ => 0))), ((r_14 3), .inl (T 1, 12, .inl (fun _ => 0))), ((r_14 4), .inl (T 1, 12, .inl (fun _ => 0))), ((r_14 5), .inl (T 1, 12, .inl (fun _ => 0))), ((r_14 6), .inl (T 1, 12, .inl (fun _ => 0))), ((r_14 7), .inl (T 1, 12, .inl (fun _ => 0))), ((r_14 8), .inl (T 1, 12, .inl (fun _ => 0))), ((r_14 9), .inl (T 1, 12, .inl (fun _ => 0))), ((r_14 10), .inl (T 1, 12, .inl (fun _ => 0))), ((r_14 11), .inl (T 1, 12, .inl (fun _ => 0)))] ∧ va_S A s.heap H locs ∧ lv_has ls 7 [(4, .int (nI i_k_20)), (3, .int 0), (2, .ref q_13), (0, .ref a1), (1, .int p1)]) (N := 12) (fun i_k_20 H locs ls hi_k_20 hI ih_k_20 => ?_) (0) _ _ _ (by omega) ⟨hP, hD, hS, lv_sub hl [0, 1, 2, 3, 4] rfl⟩
    obtain ⟨hP, hD, hS, hl⟩ := hI
    refine lv_iload hx hb dX12_countHoles_49 (lv_at hl 0 rfl) ?_
    refine lv_bipush (v := 12) hx hb dX12_countHoles_51 (by decide) ?_
    have hz_22 : (nI i_k_20).toInt = ((i_k_20 : Nat) : Int) := nI_toInt (by omega)
    refine lv_icmp_ge (tgt := 180) hx hb dX12_countHoles_53 (by decide) (fun c_21 => ?_) (fun c_21 => ?_)
    · have nc_21 : 12 ≤ (nI i_k_20).toInt := (xi_le (by decide +kernel) rfl).mp c_21
      refine lv_iload_n hx hb dX12_countHoles_180 rfl (lv_at hl 1 rfl) ?_
      have hP9 := hP.sub (ws' := [(a1, .inr (17, [.int 0, .ref a2, .ref a3, .ref a4, .long 0]))]) [0] rfl
      have hD9 := hD.sub (ws' := [(a1, .inr (17, [.int 0, .ref a2, .ref a3, .ref a4, .long 0]))]) [0] (by decide) rfl
      exact W.iret (v := 0) hx hb hr (fun t ht hW => ⟨⟨_, _, rfl, rfl, (Or.inr (⟨c_2, rfl, by rw [ht]; exact hP9, hD9⟩))⟩, hS.F ht⟩) hS.2.2 dX12_countHoles_181
    · have nc_21 : ¬ (12 ≤ (nI i_k_20).toInt) := mt (xi_le (by decide +kernel) rfl).mpr c_21
      refine lv_iload hx hb dX12_countHoles_56 (lv_at hl 0 rfl) ?_
      refine lv_iconst (v := 1) hx hb dX12_countHoles_58 (by decide) ?_
      refine lv_iadd hx hb dX12_countHoles_59 ?_
      refine lv_topi (fun f_23 ef_23 => ?_)
      obtain rfl : f_23 = (nI (i_k_20 + 1)) := ef_23.trans (nI_add _ _)
      refine lv_istore (lv' := [(5, .int (nI (i_k_20 + 1))), (4, .int (nI i_k_20)), (3, .int 0), (2, .ref q_13), (0, .ref a1), (1, .int p1)]) hx hb dX12_countHoles_60 hl (by decide) rfl (fun ls hl => ?_)
      refine xLoop (P := fun i_k_24 H locs ls => va_P (dC, dI) vwCl [(a1, .inr (17, [.int 0, .ref a2, .ref a3, .ref a4, .long 0])), (a2, .inl (T 2, 12, .inr (.inr (.inr (.inr (fun _ => none)))))), (q_13, .inl (T 3, 12, .inr (.inr (.inr (.inr (fun i => if i < 12 then some (r_14 i) else none)))))), ((r_14 0), .inl (T 1, 12, .inl (fun _ => 0))), ((r_14 1), .inl (T 1, 12, .inl (fun _ => 0))), ((r_14 2), .inl (T 1, 12, .inl (fun _ => 0))), ((r_14 3), .inl (T 1, 12, .inl (fun _ => 0))), ((r_14 4), .inl (T 1, 12, .inl (fun _ => 0))), ((r_14 5), .inl (T 1, 12, .inl (fun _ => 0))), ((r_14 6), .inl (T 1, 12, .inl (fun _ => 0))), ((r_14 7), .inl (T 1, 12, .inl (fun _ => 0))), ((r_14 8), .inl (T 1, 12, .inl (fun _ => 0))), ((r_14 9), .inl (T 1, 12, .inl (fun _ => 0))), ((r_14 10), .inl (T 1, 12, .inl (fun _ => 0))), ((r_14 11), .inl (T 1, 12, .inl (fun _ => 0)))] H ∧ va_D A [(a1, .inr (17, [.int 0, .ref a2, .ref a3, .ref a4, .long 0])), (a2, .inl (T 2, 12, .inr (.inr (.inr (.inr (fun _ => none)))))), (q_13, .inl (T 3, 12, .inr (.inr (.inr (.inr (fun i => if i < 12 then some (r_14 i) else none)))))), ((r_14 0), .inl (T 1, 12, .inl (fun _ => 0))), ((r_14 1), .inl (T 1, 12, .inl (fun _ => 0))), ((r_14 2), .inl (T 1, 12, .inl (fun _ => 0))), ((r_14 3), .inl (T 1, 12, .inl (fun _ => 0))), ((r_14 4), .inl (T 1, 12, .inl (fun _ => 0))), ((r_14 5), .inl (T 1, 12, .inl (fun _ => 0))), ((r_14 6), .inl (T 1, 12, .inl (fun _ => 0))), ((r_14 7), .inl (T 1, 12, .inl (fun _ => 0))), ((r_14 8), .inl (T 1, 12, .inl (fun _ => 0))), ((r_14 9), .inl (T 1, 12, .inl (fun _ => 0))), ((r_14 10), .inl (T 1, 12, .inl (fun _ => 0))), ((r_14 11), .inl (T 1, 12, .inl (fun _ => 0)))] ∧ va_S A s.heap H locs ∧ lv_has ls 7 [(5, .int (nI i_k_24)), (4, .int (nI i_k_20)), (3, .int 0), (2, .ref q_13), (0, .ref a1), (1, .int p1)]) (N := 12) (fun i_k_24 H locs ls hi_k_24 hI ih_k_24 => ?_) (i_k_20 + 1) _ _ _ (by omega) ⟨hP, hD, hS, lv_sub hl [0, 1, 2, 3, 4, 5] rfl⟩
      obtain ⟨hP, hD, hS, hl⟩ := hI
      refine lv_iload hx hb dX12_countHoles_62 (lv_at hl 0 rfl) ?_
      refine lv_bipush (v := 12) hx hb dX12_countHoles_64 (by decide) ?_
      have hz_26 : (nI i_k_24).toInt = ((i_k_24 : Nat) : Int) := nI_toInt (by omega)
      refine lv_icmp_ge (tgt := 174) hx hb dX12_countHoles_66 (by decide) (fun c_25 => ?_) (fun c_25 => ?_)
      · have nc_25 : 12 ≤ (nI i_k_24).toInt := (xi_le (by decide +kernel) rfl).mp c_25
        refine lv_iinc (v := (nI (i_k_20 + 1))) (lv' := [(4, .int (nI (i_k_20 + 1))), (5, .int (nI i_k_24)), (3, .int 0), (2, .ref q_13), (0, .ref a1), (1, .int p1)]) hx hb dX12_countHoles_174 hl (k := 1) rfl (nI_1 _) (by decide) rfl (fun ls hl => ?_)
        refine lv_goto (tgt := 49) hx hb dX12_countHoles_177 (by decide) ?_
        exact ih_k_20 _ _ _ (by omega) ⟨hP, hD, hS, lv_sub hl [0, 2, 3, 4, 5] rfl⟩
      · have nc_25 : ¬ (12 ≤ (nI i_k_24).toInt) := mt (xi_le (by decide +kernel) rfl).mpr c_25
        refine lv_iload_n hx hb dX12_countHoles_69 rfl (lv_at hl 2 rfl) ?_
        refine lv_aload_n hx hb dX12_countHoles_70 rfl (lv_at hl 3 rfl) ?_
        refine lv_iload hx hb dX12_countHoles_71 (lv_at hl 1 rfl) ?_
        refine xAldq hx hb hK hP 2 3 rfl rfl (vp_in_nI (by omega) (by decide)) dX12_countHoles_73 ?_
        rw [show va_rf ((fun i => if i < 12 then some (r_14 i) else none) ((nI i_k_20) : Int32).toNatClampNeg) = .ref (r_14 i_k_20) from by rw [show ((nI i_k_20) : Int32).toNatClampNeg = i_k_20 from nI_clamp (by omega)]; simp [va_rf, show i_k_20 < 12 by omega]]
        refine lv_iload hx hb dX12_countHoles_74 (lv_at hl 0 rfl) ?_
        have hrow_27 : ∀ i : Nat, i < 12 → ([(a1, .inr (17, [.int 0, .ref a2, .ref a3, .ref a4, .long 0])), (a2, .inl (T 2, 12, .inr (.inr (.inr (.inr (fun _ => none)))))), (q_13, .inl (T 3, 12, .inr (.inr (.inr (.inr (fun i => if i < 12 then some (r_14 i) else none)))))), ((r_14 0), .inl (T 1, 12, .inl (fun _ => 0))), ((r_14 1), .inl (T 1, 12, .inl (fun _ => 0))), ((r_14 2), .inl (T 1, 12, .inl (fun _ => 0))), ((r_14 3), .inl (T 1, 12, .inl (fun _ => 0))), ((r_14 4), .inl (T 1, 12, .inl (fun _ => 0))), ((r_14 5), .inl (T 1, 12, .inl (fun _ => 0))), ((r_14 6), .inl (T 1, 12, .inl (fun _ => 0))), ((r_14 7), .inl (T 1, 12, .inl (fun _ => 0))), ((r_14 8), .inl (T 1, 12, .inl (fun _ => 0))), ((r_14 9), .inl (T 1, 12, .inl (fun _ => 0))), ((r_14 10), .inl (T 1, 12, .inl (fun _ => 0))), ((r_14 11), .inl (T 1, 12, .inl (fun _ => 0)))] : va_W)[3 + i]? = some (r_14 i, .inl (T 1, 12, .inl (fun _ => 0))) := by
          intro i hi
          rcases (show i = 0 ∨ i = 1 ∨ i = 2 ∨ i = 3 ∨ i = 4 ∨ i = 5 ∨ i = 6 ∨ i = 7 ∨ i = 8 ∨ i = 9 ∨ i = 10 ∨ i = 11 by omega) with rfl | rfl | rfl | rfl | rfl | rfl | rfl | rfl | rfl | rfl | rfl | rfl <;> rfl
        refine va_zald hx hb hK hP (3 + i_k_20) 1 (hrow_27 i_k_20 (by omega)) rfl (vp_in_nI (by omega) (by decide)) dX12_countHoles_76 ?_
        refine lv_topi (fun f_28 ef_28 => ?_)
        obtain rfl : f_28 = 0 := ef_28
        refine lv_if_eq (tgt := 84) hx hb dX12_countHoles_77 (by decide) (fun c_29 => ?_) (fun c_29 => absurd (by decide) c_29)
        refine lv_iconst (v := 0) hx hb dX12_countHoles_84 (by decide) ?_
        refine lv_iadd hx hb dX12_countHoles_85 ?_
        refine lv_topi (fun f_30 ef_30 => ?_)
        obtain rfl : f_30 = 0 := ef_30.trans (by decide)
        refine lv_istore_n (lv' := [(3, .int 0), (5, .int (nI i_k_24)), (4, .int (nI i_k_20)), (2, .ref q_13), (0, .ref a1), (1, .int p1)]) hx hb dX12_countHoles_86 rfl hl (by decide) rfl (fun ls hl => ?_)
        refine lv_iload hx hb dX12_countHoles_87 (lv_at hl 1 rfl) ?_
        refine lv_iconst (v := 1) hx hb dX12_countHoles_89 (by decide) ?_
        refine lv_iadd hx hb dX12_countHoles_90 ?_
        refine lv_topi (fun f_31 ef_31 => ?_)
        obtain rfl : f_31 = (nI (i_k_24 + 1)) := ef_31.trans (nI_add _ _)
        refine lv_istore (lv' := [(6, .int (nI (i_k_24 + 1))), (3, .int 0), (5, .int (nI i_k_24)), (4, .int (nI i_k_20)), (2, .ref q_13), (0, .ref a1), (1, .int p1)]) hx hb dX12_countHoles_91 hl (by decide) rfl (fun ls hl => ?_)
        refine xLoop (P := fun i_k_32 H locs ls => va_P (dC, dI) vwCl [(a1, .inr (17, [.int 0, .ref a2, .ref a3, .ref a4, .long 0])), (a2, .inl (T 2, 12, .inr (.inr (.inr (.inr (fun _ => none)))))), (q_13, .inl (T 3, 12, .inr (.inr (.inr (.inr (fun i => if i < 12 then some (r_14 i) else none)))))), ((r_14 0), .inl (T 1, 12, .inl (fun _ => 0))), ((r_14 1), .inl (T 1, 12, .inl (fun _ => 0))), ((r_14 2), .inl (T 1, 12, .inl (fun _ => 0))), ((r_14 3), .inl (T 1, 12, .inl (fun _ => 0))), ((r_14 4), .inl (T 1, 12, .inl (fun _ => 0))), ((r_14 5), .inl (T 1, 12, .inl (fun _ => 0))), ((r_14 6), .inl (T 1, 12, .inl (fun _ => 0))), ((r_14 7), .inl (T 1, 12, .inl (fun _ => 0))), ((r_14 8), .inl (T 1, 12, .inl (fun _ => 0))), ((r_14 9), .inl (T 1, 12, .inl (fun _ => 0))), ((r_14 10), .inl (T 1, 12, .inl (fun _ => 0))), ((r_14 11), .inl (T 1, 12, .inl (fun _ => 0)))] H ∧ va_D A [(a1, .inr (17, [.int 0, .ref a2, .ref a3, .ref a4, .long 0])), (a2, .inl (T 2, 12, .inr (.inr (.inr (.inr (fun _ => none)))))), (q_13, .inl (T 3, 12, .inr (.inr (.inr (.inr (fun i => if i < 12 then some (r_14 i) else none)))))), ((r_14 0), .inl (T 1, 12, .inl (fun _ => 0))), ((r_14 1), .inl (T 1, 12, .inl (fun _ => 0))), ((r_14 2), .inl (T 1, 12, .inl (fun _ => 0))), ((r_14 3), .inl (T 1, 12, .inl (fun _ => 0))), ((r_14 4), .inl (T 1, 12, .inl (fun _ => 0))), ((r_14 5), .inl (T 1, 12, .inl (fun _ => 0))), ((r_14 6), .inl (T 1, 12, .inl (fun _ => 0))), ((r_14 7), .inl (T 1, 12, .inl (fun _ => 0))), ((r_14 8), .inl (T 1, 12, .inl (fun _ => 0))), ((r_14 9), .inl (T 1, 12, .inl (fun _ => 0))), ((r_14 10), .inl (T 1, 12, .inl (fun _ => 0))), ((r_14 11), .inl (T 1, 12, .inl (fun _ => 0)))] ∧ va_S A s.heap H locs ∧ lv_has ls 7 [(6, .int (nI i_k_32)), (3, .int 0), (5, .int (nI i_k_24)), (4, .int (nI i_k_20)), (2, .ref q_13), (0, .ref a1), (1, .int p1)]) (N := 12) (fun i_k_32 H locs ls hi_k_32 hI ih_k_32 => ?_) (i_k_24 + 1) _ _ _ (by omega) ⟨hP, hD, hS, lv_sub hl [0, 1, 2, 3, 4, 5, 6] rfl⟩
        obtain ⟨hP, hD, hS, hl⟩ := hI
        refine lv_iload hx hb dX12_countHoles_93 (lv_at hl 0 rfl) ?_
        refine lv_bipush (v := 12) hx hb dX12_countHoles_95 (by decide) ?_
        have hz_34 : (nI i_k_32).toInt = ((i_k_32 : Nat) : Int) := nI_toInt (by omega)
        refine lv_icmp_ge (tgt := 168) hx hb dX12_countHoles_97 (by decide) (fun c_33 => ?_) (fun c_33 => ?_)
        · have nc_33 : 12 ≤ (nI i_k_32).toInt := (xi_le (by decide +kernel) rfl).mp c_33
          refine lv_iinc (v := (nI (i_k_24 + 1))) (lv' := [(5, .int (nI (i_k_24 + 1))), (6, .int (nI i_k_32)), (3, .int 0), (4, .int (nI i_k_20)), (2, .ref q_13), (0, .ref a1), (1, .int p1)]) hx hb dX12_countHoles_168 hl (k := 2) rfl (nI_1 _) (by decide) rfl (fun ls hl => ?_)
          refine lv_goto (tgt := 62) hx hb dX12_countHoles_171 (by decide) ?_
          exact ih_k_24 _ _ _ (by omega) ⟨hP, hD, hS, lv_sub hl [0, 3, 2, 4, 5, 6] rfl⟩
        · have nc_33 : ¬ (12 ≤ (nI i_k_32).toInt) := mt (xi_le (by decide +kernel) rfl).mpr c_33
          refine lv_iload_n hx hb dX12_countHoles_100 rfl (lv_at hl 1 rfl) ?_
          refine lv_aload_n hx hb dX12_countHoles_101 rfl (lv_at hl 5 rfl) ?_
          refine lv_iload hx hb dX12_countHoles_102 (lv_at hl 3 rfl) ?_
          have hPc := hP.sub (ws' := [(a1, .inr (17, [.int 0, .ref a2, .ref a3, .ref a4, .long 0])), (a2, .inl (T 2, 12, .inr (.inr (.inr (.inr (fun _ => none))))))]) [0, 1] rfl
          have hDc := hD.sub (ws' := [(a1, .inr (17, [.int 0, .ref a2, .ref a3, .ref a4, .long 0])), (a2, .inl (T 2, 12, .inr (.inr (.inr (.inr (fun _ => none))))))]) [0, 1] (by decide) rfl
          have hFc := va_free (wc := [(a1, .inr (17, [.int 0, .ref a2, .ref a3, .ref a4, .long 0])), (a2, .inl (T 2, 12, .inr (.inr (.inr (.inr (fun _ => none))))))]) hD hS hA [0, 1] rfl
          refine va_calli (va_runV (As := [.int (nI i_k_20)]) (rest := [.int 0]) ⟨hx, hb, hml, hown, hts⟩ (xcX12_isThere l hst dC dI T a1 a2 a3 a4 H.size (nI i_k_20)) (cwV 1 hts gX12_countHoles_X12_isThere rfl rfl rfl (by decide +kernel) ⟨Nat.le_of_ble_eq_true rfl, Nat.le_of_ble_eq_true rfl⟩) ⟨xBlind, va_recv hK hPc (ci := 17) (q0 := 0) rfl rfl, xCall hK hG hS hPc hDc hFc⟩ rfl rfl hl.1 rfl (lv_room (Nat.le_of_ble_eq_true rfl)) dX12_countHoles_104 ⟨Nat.le_of_ble_eq_true rfl, Nat.le_of_ble_eq_true rfl⟩) hS (fun q _ h => hFc q h) hFc (fun r_9 u t H locs ht hvm hw hB hz1 hk1 hS => ?_)
          subst hw
          rcases hB with ⟨hr_9, hP1, hD1⟩
          rw [ht] at hP1
          subst hr_9
          obtain ⟨hP, hD⟩ := va_join (wr := [(q_13, .inl (T 3, 12, .inr (.inr (.inr (.inr (fun i => if i < 12 then some (r_14 i) else none)))))), ((r_14 0), .inl (T 1, 12, .inl (fun _ => 0))), ((r_14 1), .inl (T 1, 12, .inl (fun _ => 0))), ((r_14 2), .inl (T 1, 12, .inl (fun _ => 0))), ((r_14 3), .inl (T 1, 12, .inl (fun _ => 0))), ((r_14 4), .inl (T 1, 12, .inl (fun _ => 0))), ((r_14 5), .inl (T 1, 12, .inl (fun _ => 0))), ((r_14 6), .inl (T 1, 12, .inl (fun _ => 0))), ((r_14 7), .inl (T 1, 12, .inl (fun _ => 0))), ((r_14 8), .inl (T 1, 12, .inl (fun _ => 0))), ((r_14 9), .inl (T 1, 12, .inl (fun _ => 0))), ((r_14 10), .inl (T 1, 12, .inl (fun _ => 0))), ((r_14 11), .inl (T 1, 12, .inl (fun _ => 0)))]) (w1 := [(a1, .inr (17, [.int 0, .ref a2, .ref a3, .ref a4, .long 0])), (a2, .inl (T 2, 12, .inr (.inr (.inr (.inr (fun _ => none))))))]) hP hD [0, 1] [2, 3, 4, 5, 6, 7, 8, 9, 10, 11, 12, 13, 14] rfl rfl (by decide) (by decide) hk1 hFc hP1 hD1
          have hP := hP.sub (ws' := [(a1, .inr (17, [.int 0, .ref a2, .ref a3, .ref a4, .long 0])), (a2, .inl (T 2, 12, .inr (.inr (.inr (.inr (fun _ => none)))))), (q_13, .inl (T 3, 12, .inr (.inr (.inr (.inr (fun i => if i < 12 then some (r_14 i) else none)))))), ((r_14 0), .inl (T 1, 12, .inl (fun _ => 0))), ((r_14 1), .inl (T 1, 12, .inl (fun _ => 0))), ((r_14 2), .inl (T 1, 12, .inl (fun _ => 0))), ((r_14 3), .inl (T 1, 12, .inl (fun _ => 0))), ((r_14 4), .inl (T 1, 12, .inl (fun _ => 0))), ((r_14 5), .inl (T 1, 12, .inl (fun _ => 0))), ((r_14 6), .inl (T 1, 12, .inl (fun _ => 0))), ((r_14 7), .inl (T 1, 12, .inl (fun _ => 0))), ((r_14 8), .inl (T 1, 12, .inl (fun _ => 0))), ((r_14 9), .inl (T 1, 12, .inl (fun _ => 0))), ((r_14 10), .inl (T 1, 12, .inl (fun _ => 0))), ((r_14 11), .inl (T 1, 12, .inl (fun _ => 0)))]) [13, 14, 0, 1, 2, 3, 4, 5, 6, 7, 8, 9, 10, 11, 12] rfl
          have hD := hD.sub (ws' := [(a1, .inr (17, [.int 0, .ref a2, .ref a3, .ref a4, .long 0])), (a2, .inl (T 2, 12, .inr (.inr (.inr (.inr (fun _ => none)))))), (q_13, .inl (T 3, 12, .inr (.inr (.inr (.inr (fun i => if i < 12 then some (r_14 i) else none)))))), ((r_14 0), .inl (T 1, 12, .inl (fun _ => 0))), ((r_14 1), .inl (T 1, 12, .inl (fun _ => 0))), ((r_14 2), .inl (T 1, 12, .inl (fun _ => 0))), ((r_14 3), .inl (T 1, 12, .inl (fun _ => 0))), ((r_14 4), .inl (T 1, 12, .inl (fun _ => 0))), ((r_14 5), .inl (T 1, 12, .inl (fun _ => 0))), ((r_14 6), .inl (T 1, 12, .inl (fun _ => 0))), ((r_14 7), .inl (T 1, 12, .inl (fun _ => 0))), ((r_14 8), .inl (T 1, 12, .inl (fun _ => 0))), ((r_14 9), .inl (T 1, 12, .inl (fun _ => 0))), ((r_14 10), .inl (T 1, 12, .inl (fun _ => 0))), ((r_14 11), .inl (T 1, 12, .inl (fun _ => 0)))]) [13, 14, 0, 1, 2, 3, 4, 5, 6, 7, 8, 9, 10, 11, 12] (by decide) rfl
          clear hPc hDc hFc hP1 hD1 hk1 hz1 ht hvm
          refine lv_if_eq (tgt := 159) hx hb dX12_countHoles_107 (by decide) (fun c_36 => ?_) (fun c_36 => absurd (by decide) c_36)
          refine lv_iconst (v := 0) hx hb dX12_countHoles_159 (by decide) ?_
          refine lv_isub hx hb dX12_countHoles_160 ?_
          refine lv_topi (fun f_37 ef_37 => ?_)
          obtain rfl : f_37 = 0 := ef_37.trans (by decide)
          refine lv_istore_n (lv' := [(3, .int 0), (6, .int (nI i_k_32)), (5, .int (nI i_k_24)), (4, .int (nI i_k_20)), (2, .ref q_13), (0, .ref a1), (1, .int p1)]) hx hb dX12_countHoles_161 rfl hl (by decide) rfl (fun ls hl => ?_)
          refine lv_iinc (v := (nI (i_k_32 + 1))) (lv' := [(6, .int (nI (i_k_32 + 1))), (3, .int 0), (5, .int (nI i_k_24)), (4, .int (nI i_k_20)), (2, .ref q_13), (0, .ref a1), (1, .int p1)]) hx hb dX12_countHoles_162 hl (k := 1) rfl (nI_1 _) (by decide) rfl (fun ls hl => ?_)
          refine lv_goto (tgt := 93) hx hb dX12_countHoles_165 (by decide) ?_
          exact ih_k_32 _ _ _ (by omega) ⟨hP, hD, hS, lv_sub hl [0, 1, 2, 3, 4, 5, 6] rfl⟩
set_option maxHeartbeats 4000000 in
set_option maxRecDepth 100000 in
theorem xcJxa1e45_init_da8c8 (l : Launch) (hst : l.stackTraces = false) (dC : Nat → ClassId) (dI : Nat → Nat → Nat) (T : Nat → ClassId) (a1 : Nat) (sz : Nat) : Met l yJxa1e45_init_da8c8 wsJxa1e45_init_da8c8 ({ frames := 1, cells := 0, slots := 0, locals := 12 } : Room) (va_Pc [.ref a1] (fun U => xB dC dI T [] sz U)) (va_Qv (fun _ : Unit => True) (fun (_ : Unit) (t : State) => xE dC dI [] (va_A [] sz) t) (va_A [] sz)) 0 0 (va_A [] sz) := by
  refine Met.ofW (cc := cJxa1e45_init_da8c8) (maxL := 1) (ret := none) (by decide +kernel) rfl ?_
  intro p e s m args below meth c s₁ B hml hv
  obtain ⟨rfl, hsz, hP, hK, hD0, hG⟩ := hv
  have hx := B.exec
  have hb := B.bytes
  have hr := B.returns
  have hts := atoms_spec (ws := wsJxa1e45_init_da8c8) B.pre
  have hown : s.vm.findClass RJxa1e45 = some m.cls := findClass_of_methodNamed B.named
  have hlocks := B.notSynchronized
  have hinit : meth.name = "<init>" := (name_of_methodNamed B.named B.method).1
  subst hsz
  have hD := hD0.self (sz := s.heap.size)
  generalize hAe : va_A [] s.heap.size = A at hD hG ⊢
  have hA : ∀ q : Nat, s.heap.size ≤ q → A q := fun q h => by rw [← hAe]; exact Or.inr h
  have hS : va_S A s.heap s.heap [] := va_S.rf
  have hl := lv_entry ([.ref a1]) (n := 1) (Nat.le_of_ble_eq_true rfl)
  rw [lg_entry_eq]
  generalize (lg_sl ([.ref a1]) ++ List.replicate (1 - (lg_sl ([.ref a1])).length) Slot.unset).toArray = ls at hl ⊢
  have hl : lv_has ls 1 [(0, .ref a1)] := hl
  refine lv_aload_n hx hb dJxa1e45_init_da8c8_0 rfl (lv_at hl 0 rfl) ?_
  refine W.objInit hx hb hown (hts (.methodLink RJxa1e45 1 objectInit) (by decide +kernel)) (hts (.instanceMethod objectInit) (by decide +kernel)) (hts (.code objectInit ⟨#[0xb1]⟩ 1 none) (by decide +kernel)) rfl (by rw [hml]; exact hl.1) rfl dJxa1e45_init_da8c8_1 (Nat.le_of_ble_eq_true rfl) (Nat.le_of_ble_eq_true rfl) ?_
  refine W.eq (g2 := F0 m 4 ls []) rfl ?_
  have hP9 := hP.sub (ws' := []) [] rfl
  have hD9 := hD.sub (ws' := []) [] (by decide) rfl
  exact W.vret hx hb hr (fun t ht hW => ⟨⟨(), rfl, trivial, ⟨by rw [ht]; exact hP9, hD9⟩⟩, hS.F ht⟩) hS.2.2 dJxa1e45_init_da8c8_4
set_option maxHeartbeats 4000000 in
set_option maxRecDepth 100000 in
theorem xcJxc12de_init_da8c8 (l : Launch) (hst : l.stackTraces = false) (dC : Nat → ClassId) (dI : Nat → Nat → Nat) (T : Nat → ClassId) (a1 : Nat) (sz : Nat) : Met l yJxc12de_init_da8c8 wsJxc12de_init_da8c8 ({ frames := 2, cells := 0, slots := 0, locals := 32 } : Room) (va_Pc [.ref a1] (fun U => xB dC dI T [(a1, .inr (4, [.int 0, .null, .int 0]))] sz U)) (va_Qv (fun _ : Unit => True) (fun (_ : Unit) (t : State) => xE dC dI [(a1, .inr (4, [.int 0, .null, .int 0]))] (va_A [(a1, .inr (4, [.int 0, .null, .int 0]))] sz) t) (va_A [(a1, .inr (4, [.int 0, .null, .int 0]))] sz)) 0 0 (va_A [(a1, .inr (4, [.int 0, .null, .int 0]))] sz) := by
  refine Met.ofW (cc := cJxc12de_init_da8c8) (maxL := 1) (ret := none) (by decide +kernel) rfl ?_
  intro p e s m args below meth c s₁ B hml hv
  obtain ⟨rfl, hsz, hP, hK, hD0, hG⟩ := hv
  have hx := B.exec
  have hb := B.bytes
  have hr := B.returns
  have hts := atoms_spec (ws := wsJxc12de_init_da8c8) B.pre
  have hown : s.vm.findClass RJxc12de = some m.cls := findClass_of_methodNamed B.named
  have hlocks := B.notSynchronized
  have hinit : meth.name = "<init>" := (name_of_methodNamed B.named B.method).1
  have hin_Jx4a65c : ∀ w ∈ wsJx4a65c0, w ∈ wsJxc12de_init_da8c8 := by decide +kernel
  subst hsz
  have hD := hD0.self (sz := s.heap.size)
  generalize hAe : va_A [(a1, .inr (4, [.int 0, .null, .int 0]))] s.heap.size = A at hD hG ⊢
  have hA : ∀ q : Nat, s.heap.size ≤ q → A q := fun q h => by rw [← hAe]; exact Or.inr h
  have hS : va_S A s.heap s.heap [] := va_S.rf
  have hl := lv_entry ([.ref a1]) (n := 1) (Nat.le_of_ble_eq_true rfl)
  rw [lg_entry_eq]
  generalize (lg_sl ([.ref a1]) ++ List.replicate (1 - (lg_sl ([.ref a1])).length) Slot.unset).toArray = ls at hl ⊢
  have hl : lv_has ls 1 [(0, .ref a1)] := hl
  refine lv_aload_n hx hb dJxc12de_init_da8c8_0 rfl (lv_at hl 0 rfl) ?_
  have hPc := hP.sub (ws' := []) [] rfl
  have hDc := hD.sub (ws' := []) [] (by decide) rfl
  have hFc := va_free (wc := []) hD hS hA [] rfl
  refine va_callv (va_runI (As := []) (rest := []) ⟨hx, hb, hml, hown, hts⟩ (xcJxa1e45_init_da8c8 l hst dC dI T a1 s.heap.size) (cwI 0 hts gJxc12de_init_da8c8_Jxa1e45_init_da8c8 rfl rfl rfl (hts (.initialized RJxa1e45) (by decide +kernel)) (hts (.methodLink RJxc12de 1 yJxa1e45_init_da8c8) (by decide +kernel)) (hts (.instanceMethod yJxa1e45_init_da8c8) (by decide +kernel)) rfl (by decide +kernel) ⟨Nat.le_of_ble_eq_true rfl, Nat.le_of_ble_eq_true rfl⟩) ⟨xBlind, xCall hK hG hS hPc hDc hFc⟩ rfl rfl hl.1 rfl (lv_room (Nat.le_of_ble_eq_true rfl)) dJxc12de_init_da8c8_1 ⟨Nat.le_of_ble_eq_true rfl, Nat.le_of_ble_eq_true rfl⟩) hS (fun q _ h => hFc q h) hFc (fun u t H locs ht hvm hw hB hz1 hk1 hS => ?_)
  rcases hB with ⟨hP1, hD1⟩
  rw [ht] at hP1
  obtain ⟨hP, hD⟩ := va_join (wr := [(a1, .inr (4, [.int 0, .null, .int 0]))]) (w1 := []) hP hD [] [0] rfl rfl (by decide) (by decide) hk1 hFc hP1 hD1
  have hP : va_P (dC, dI) vwCl [(a1, .inr (4, [.int 0, .null, .int 0]))] H := hP
  have hD : va_D A [(a1, .inr (4, [.int 0, .null, .int 0]))] := hD
  clear hPc hDc hFc hP1 hD1 hk1 hz1 ht hvm
  refine lv_aload_n hx hb dJxc12de_init_da8c8_4 rfl (lv_at hl 0 rfl) ?_
  refine lv_iconst (v := 0) hx hb dJxc12de_init_da8c8_5 (by decide) ?_
  refine va_put (D := (dC, dI)) (ci := 4) (v := .int 0) (ty := .int) (C := RJx4a65c) (T := TJx4a65c) (N := 3) hx hb hts hin_Jx4a65c tyJx4a65c tyJx4a65c_ok nmJx4a65c hown hK hP hD hS 0 rfl rfl 0 (by decide) (hts (.fieldLink RJxc12de 7 "java/util/AbstractList" "modCount" "I") (by decide +kernel)) (fun _ h9 => h9) rfl (by decide +kernel) rfl rfl (Nat.le_of_ble_eq_true rfl) dJxc12de_init_da8c8_6 (fun H locs hP hD hS => ?_)
  have hP : va_P (dC, dI) vwCl [(a1, .inr (4, [.int 0, .null, .int 0]))] H := hP
  have hD : va_D A [(a1, .inr (4, [.int 0, .null, .int 0]))] := hD
  have hP9 := hP.sub (ws' := [(a1, .inr (4, [.int 0, .null, .int 0]))]) [0] rfl
  have hD9 := hD.sub (ws' := [(a1, .inr (4, [.int 0, .null, .int 0]))]) [0] (by decide) rfl
  exact W.vret hx hb hr (fun t ht hW => ⟨⟨(), rfl, trivial, ⟨by rw [ht]; exact hP9, hD9⟩⟩, hS.F ht⟩) hS.2.2 dJxc12de_init_da8c8_9
set_option maxHeartbeats 4000000 in
set_option maxRecDepth 100000 in
theorem xcJx4a65c_init_da8c8 (l : Launch) (hst : l.stackTraces = false) (dC : Nat → ClassId) (dI : Nat → Nat → Nat) (T : Nat → ClassId) (a1 : Nat) (sz : Nat) : Met l yJx4a65c_init_da8c8 wsJx4a65c_init_da8c8 ({ frames := 3, cells := 0, slots := 0, locals := 52 } : Room) (va_Pc [.ref a1] (fun U => xB dC dI T [(a1, .inr (4, [.int 0, .null, .int 0]))] sz U)) (va_Qv (fun _ : Unit => True) (fun (_ : Unit) (t : State) => xE dC dI [(a1, .inr (4, [.int 0, .ref (dI 1000 0), .int 0]))] (va_A [(a1, .inr (4, [.int 0, .null, .int 0]))] sz) t) (va_A [(a1, .inr (4, [.int 0, .null, .int 0]))] sz)) 0 0 (va_A [(a1, .inr (4, [.int 0, .null, .int 0]))] sz) := by
  refine Met.ofW (cc := cJx4a65c_init_da8c8) (maxL := 1) (ret := none) (by decide +kernel) rfl ?_
  intro p e s m args below meth c s₁ B hml hv
  obtain ⟨rfl, hsz, hP, hK, hD0, hG⟩ := hv
  have hx := B.exec
  have hb := B.bytes
  have hr := B.returns
  have hts := atoms_spec (ws := wsJx4a65c_init_da8c8) B.pre
  have hown : s.vm.findClass RJx4a65c = some m.cls := findClass_of_methodNamed B.named
  have hlocks := B.notSynchronized
  have hinit : meth.name = "<init>" := (name_of_methodNamed B.named B.method).1
  have hin_Jx4a65c : ∀ w ∈ wsJx4a65c0, w ∈ wsJx4a65c_init_da8c8 := by decide +kernel
  subst hsz
  have hD := hD0.self (sz := s.heap.size)
  generalize hAe : va_A [(a1, .inr (4, [.int 0, .null, .int 0]))] s.heap.size = A at hD hG ⊢
  have hA : ∀ q : Nat, s.heap.size ≤ q → A q := fun q h => by rw [← hAe]; exact Or.inr h
  have hS : va_S A s.heap s.heap [] := va_S.rf
  have hl := lv_entry ([.ref a1]) (n := 1) (Nat.le_of_ble_eq_true rfl)
  rw [lg_entry_eq]
  generalize (lg_sl ([.ref a1]) ++ List.replicate (1 - (lg_sl ([.ref a1])).length) Slot.unset).toArray = ls at hl ⊢
  have hl : lv_has ls 1 [(0, .ref a1)] := hl
  refine lv_aload_n hx hb dJx4a65c_init_da8c8_0 rfl (lv_at hl 0 rfl) ?_
  have hPc := hP.sub (ws' := [(a1, .inr (4, [.int 0, .null, .int 0]))]) [0] rfl
  have hDc := hD.sub (ws' := [(a1, .inr (4, [.int 0, .null, .int 0]))]) [0] (by decide) rfl
  have hFc := va_free (wc := [(a1, .inr (4, [.int 0, .null, .int 0]))]) hD hS hA [0] rfl
  refine va_callv (va_runI (As := []) (rest := []) ⟨hx, hb, hml, hown, hts⟩ (xcJxc12de_init_da8c8 l hst dC dI T a1 s.heap.size) (cwI 0 hts gJx4a65c_init_da8c8_Jxc12de_init_da8c8 rfl rfl rfl (hts (.initialized RJxc12de) (by decide +kernel)) (hts (.methodLink RJx4a65c 1 yJxc12de_init_da8c8) (by decide +kernel)) (hts (.instanceMethod yJxc12de_init_da8c8) (by decide +kernel)) rfl (by decide +kernel) ⟨Nat.le_of_ble_eq_true rfl, Nat.le_of_ble_eq_true rfl⟩) ⟨xBlind, xCall hK hG hS hPc hDc hFc⟩ rfl rfl hl.1 rfl (lv_room (Nat.le_of_ble_eq_true rfl)) dJx4a65c_init_da8c8_1 ⟨Nat.le_of_ble_eq_true rfl, Nat.le_of_ble_eq_true rfl⟩) hS (fun q _ h => hFc q h) hFc (fun u t H locs ht hvm hw hB hz1 hk1 hS => ?_)
  rcases hB with ⟨hP1, hD1⟩
  rw [ht] at hP1
  obtain ⟨hP, hD⟩ := va_join (wr := []) (w1 := [(a1, .inr (4, [.int 0, .null, .int 0]))]) hP hD [0] [] rfl rfl (by decide) (by decide) hk1 hFc hP1 hD1
  have hP : va_P (dC, dI) vwCl [(a1, .inr (4, [.int 0, .null, .int 0]))] H := hP
  have hD : va_D A [(a1, .inr (4, [.int 0, .null, .int 0]))] := hD
  clear hPc hDc hFc hP1 hD1 hk1 hz1 ht hvm
  refine lv_aload_n hx hb dJx4a65c_init_da8c8_4 rfl (lv_at hl 0 rfl) ?_
  refine va_gets hx hb hG.2.2.2.2.2.1 hS hown (hts (.fieldLink RJx4a65c 39 "java/util/ArrayList" "DEFAULTCAPACITY_EMPTY_ELEMENTDATA" "[Ljava/lang/Object;") (by decide +kernel)) (fun _ h9 => h9) dJx4a65c_init_da8c8_5 ?_
  refine va_put (D := (dC, dI)) (ci := 4) (v := .ref (dI 1000 0)) (ty := .array (.object "java/lang/Object")) (C := RJx4a65c) (T := TJx4a65c) (N := 3) hx hb hts hin_Jx4a65c tyJx4a65c tyJx4a65c_ok nmJx4a65c hown hK hP hD hS 0 rfl rfl 1 (by decide) (hts (.fieldLink RJx4a65c 9 "java/util/ArrayList" "elementData" "[Ljava/lang/Object;") (by decide +kernel)) (fun _ h9 => h9) rfl (by decide +kernel) rfl rfl (Nat.le_of_ble_eq_true rfl) dJx4a65c_init_da8c8_8 (fun H locs hP hD hS => ?_)
  have hP : va_P (dC, dI) vwCl [(a1, .inr (4, [.int 0, .ref (dI 1000 0), .int 0]))] H := hP
  have hD : va_D A [(a1, .inr (4, [.int 0, .ref (dI 1000 0), .int 0]))] := hD
  have hP9 := hP.sub (ws' := [(a1, .inr (4, [.int 0, .ref (dI 1000 0), .int 0]))]) [0] rfl
  have hD9 := hD.sub (ws' := [(a1, .inr (4, [.int 0, .ref (dI 1000 0), .int 0]))]) [0] (by decide) rfl
  exact W.vret hx hb hr (fun t ht hW => ⟨⟨(), rfl, trivial, ⟨by rw [ht]; exact hP9, hD9⟩⟩, hS.F ht⟩) hS.2.2 dJx4a65c_init_da8c8_11
set_option maxHeartbeats 4000000 in
set_option maxRecDepth 100000 in
theorem xcX12_hull (l : Launch) (hst : l.stackTraces = false) (dC : Nat → ClassId) (dI : Nat → Nat → Nat) (T : Nat → ClassId) (a1 : Nat) (a2 : Nat) (a3 : Nat) (a4 : Nat) (sz : Nat) : Met l yX12_hull wsX12_hull ({ frames := 4, cells := 1, slots := 3, locals := 72 } : Room) (va_Pc [.ref a1, .int 0] (fun U => xB dC dI T [(a1, .inr (17, [.int 0, .ref a2, .ref a3, .ref a4, .long 0]))] sz U)) (va_Qr (fun _ : Unit => True) (fun (_ : Unit) (ra : Nat) (t : State) => ∃ (q_1 : Nat), q_1 = ra ∧ xE dC dI [(a1, .inr (17, [.int 0, .ref a2, .ref a3, .ref a4, .long 0])), (q_1, .inr (4, [.int 0, .ref (dI 1000 0), .int 0]))] (va_A [(a1, .inr (17, [.int 0, .ref a2, .ref a3, .ref a4, .long 0]))] sz) t) (va_A [(a1, .inr (17, [.int 0, .ref a2, .ref a3, .ref a4, .long 0]))] sz)) 1 3 (va_A [(a1, .inr (17, [.int 0, .ref a2, .ref a3, .ref a4, .long 0]))] sz) := by
  refine Met.ofW (cc := cX12_hull) (maxL := 8) (ret := (some (.object "java/util/List"))) (by decide +kernel) rfl ?_
  intro p e s m args below meth c s₁ B hml hv
  obtain ⟨rfl, hsz, hP, hK, hD0, hG⟩ := hv
  have hx := B.exec
  have hb := B.bytes
  have hr := B.returns
  have hts := atoms_spec (ws := wsX12_hull) B.pre
  have hown : s.vm.findClass RX12 = some m.cls := findClass_of_methodNamed B.named
  have hlocks := B.notSynchronized
  have hin_Jx4a65c : ∀ w ∈ wsJx4a65c0, w ∈ wsX12_hull := by decide +kernel
  subst hsz
  have hD := hD0.self (sz := s.heap.size)
  generalize hAe : va_A [(a1, .inr (17, [.int 0, .ref a2, .ref a3, .ref a4, .long 0]))] s.heap.size = A at hD hG ⊢
  have hA : ∀ q : Nat, s.heap.size ≤ q → A q := fun q h => by rw [← hAe]; exact Or.inr h
  have hS : va_S A s.heap s.heap [] := va_S.rf
  have hl := lv_entry ([.ref a1, .int 0]) (n := 8) (Nat.le_of_ble_eq_true rfl)
  rw [lg_entry_eq]
  generalize (lg_sl ([.ref a1, .int 0]) ++ List.replicate (8 - (lg_sl ([.ref a1, .int 0])).length) Slot.unset).toArray = ls at hl ⊢
  have hl : lv_has ls 8 [(0, .ref a1), (1, .int 0)] := hl
  have h_1q_1 : 0 + 1 ≤ 1 := Nat.le_of_ble_eq_true rfl
  have h_2q_1 : 0 + 3 ≤ 3 := Nat.le_of_ble_eq_true rfl
  refine va_new (ci := 4) (fs := [.int 0, .null, .int 0]) (C := RJx4a65c) (T := TJx4a65c) (N := 3) hx hb hts hin_Jx4a65c tyJx4a65c tyJx4a65c_ok hown (hts (.classLink RX12 15 RJx4a65c) (by decide +kernel)) (hts (.instantiable RJx4a65c 3) (by decide +kernel)) (hts (.initialized RJx4a65c) (by decide +kernel)) hK hP hD hS hA rfl (fun j hj => by rcases (show j = 0 ∨ j = 1 ∨ j = 2 by omega) with rfl | rfl | rfl <;> rfl) h_1q_1 h_2q_1 dX12_hull_0 (fun q_1 H hP hD hS => ?_)
  have hP : va_P (dC, dI) vwCl [(a1, .inr (17, [.int 0, .ref a2, .ref a3, .ref a4, .long 0])), (q_1, .inr (4, [.int 0, .null, .int 0]))] H := hP
  have hD : va_D A [(a1, .inr (17, [.int 0, .ref a2, .ref a3, .ref a4, .long 0])), (q_1, .inr (4, [.int 0, .null, .int 0]))] := hD
  refine W.widen (k := 1) (n := 3) (by omega) (by omega) ?_
  refine lv_dup hx hb dX12_hull_3 rfl ?_
  have hPc := hP.sub (ws' := [(q_1, .inr (4, [.int 0, .null, .int 0]))]) [1] rfl
  have hDc := hD.sub (ws' := [(q_1, .inr (4, [.int 0, .null, .int 0]))]) [1] (by decide) rfl
  have hFc := va_free (wc := [(q_1, .inr (4, [.int 0, .null, .int 0]))]) hD hS hA [1] rfl
  refine va_callv (va_runI (As := []) (rest := [.ref q_1]) ⟨hx, hb, hml, hown, hts⟩ (xcJx4a65c_init_da8c8 l hst dC dI T q_1 H.size) (cwI 0 hts gX12_hull_Jx4a65c_init_da8c8 rfl rfl rfl (hts (.initialized RJx4a65c) (by decide +kernel)) (hts (.methodLink RX12 17 yJx4a65c_init_da8c8) (by decide +kernel)) (hts (.instanceMethod yJx4a65c_init_da8c8) (by decide +kernel)) rfl (by decide +kernel) ⟨Nat.le_of_ble_eq_true rfl, Nat.le_of_ble_eq_true rfl⟩) ⟨xBlind, xCall hK hG hS hPc hDc hFc⟩ rfl rfl hl.1 rfl (lv_room (Nat.le_of_ble_eq_true rfl)) dX12_hull_4 ⟨Nat.le_of_ble_eq_true rfl, Nat.le_of_ble_eq_true rfl⟩) hS (fun q _ h => hFc q h) hFc (fun u t H locs ht hvm hw hB hz1 hk1 hS => ?_)
  rcases hB with ⟨hP1, hD1⟩
  rw [ht] at hP1
  obtain ⟨hP, hD⟩ := va_join (wr := [(a1, .inr (17, [.int 0, .ref a2, .ref a3, .ref a4, .long 0]))]) (w1 := [(q_1, .inr (4, [.int 0, .ref (dI 1000 0), .int 0]))]) hP hD [1] [0] rfl rfl (by decide) (by decide) hk1 hFc hP1 hD1
  have hP : va_P (dC, dI) vwCl [(a1, .inr (17, [.int 0, .ref a2, .ref a3, .ref a4, .long 0])), (q_1, .inr (4, [.int 0, .ref (dI 1000 0), .int 0]))] H := hP
  have hD : va_D A [(a1, .inr (17, [.int 0, .ref a2, .ref a3, .ref a4, .long 0])), (q_1, .inr (4, [.int 0, .ref (dI 1000 0), .int 0]))] := hD
  clear hPc hDc hFc hP1 hD1 hk1 hz1 ht hvm
  refine lv_astore_n (lv' := [(2, .ref q_1), (0, .ref a1), (1, .int 0)]) hx hb dX12_hull_7 rfl hl (by decide) rfl (fun ls hl => ?_)
  refine lv_iconst (v := (-1)) hx hb dX12_hull_8 (by decide) ?_
  refine lv_istore_n (lv' := [(3, .int (-1)), (2, .ref q_1), (0, .ref a1), (1, .int 0)]) hx hb dX12_hull_9 rfl hl (by decide) rfl (fun ls hl => ?_)
  refine lv_iconst (v := 0) hx hb dX12_hull_10 (by decide) ?_
  refine lv_istore (lv' := [(4, .int 0), (3, .int (-1)), (2, .ref q_1), (0, .ref a1), (1, .int 0)]) hx hb dX12_hull_11 hl (by decide) rfl (fun ls hl => ?_)
  refine xLoop (P := fun i_k_3 H locs ls => va_P (dC, dI) vwCl [(a1, .inr (17, [.int 0, .ref a2, .ref a3, .ref a4, .long 0])), (q_1, .inr (4, [.int 0, .ref (dI 1000 0), .int 0]))] H ∧ va_D A [(a1, .inr (17, [.int 0, .ref a2, .ref a3, .ref a4, .long 0])), (q_1, .inr (4, [.int 0, .ref (dI 1000 0), .int 0]))] ∧ va_S A s.heap H locs ∧ lv_has ls 8 [(4, .int (nI i_k_3)), (3, .int (-1)), (2, .ref q_1), (0, .ref a1), (1, .int 0)]) (N := 12) (fun i_k_3 H locs ls hi_k_3 hI ih_k_3 => ?_) (0) _ _ _ (by omega) ⟨hP, hD, hS, lv_sub hl [0, 1, 2, 3, 4] rfl⟩
  obtain ⟨hP, hD, hS, hl⟩ := hI
  refine lv_iload hx hb dX12_hull_13 (lv_at hl 0 rfl) ?_
  refine lv_bipush (v := 12) hx hb dX12_hull_15 (by decide) ?_
  have hz_5 : (nI i_k_3).toInt = ((i_k_3 : Nat) : Int) := nI_toInt (by omega)
  refine lv_icmp_ge (tgt := 58) hx hb dX12_hull_17 (by decide) (fun c_4 => ?_) (fun c_4 => ?_)
  · have nc_4 : 12 ≤ (nI i_k_3).toInt := (xi_le (by decide +kernel) rfl).mp c_4
    refine lv_iload_n hx hb dX12_hull_58 rfl (lv_at hl 1 rfl) ?_
    refine lv_istore (lv' := [(4, .int (-1)), (3, .int (-1)), (2, .ref q_1), (0, .ref a1), (1, .int 0)]) hx hb dX12_hull_59 hl (by decide) rfl (fun ls hl => ?_)
    refine lv_iload hx hb dX12_hull_61 (lv_at hl 0 rfl) ?_
    refine lv_iconst (v := (-1)) hx hb dX12_hull_63 (by decide) ?_
    refine lv_icmp_eq (tgt := 200) hx hb dX12_hull_64 (by decide) (fun c_6 => ?_) (fun c_6 => absurd (by decide) c_6)
    refine lv_aload_n hx hb dX12_hull_200 rfl (lv_at hl 2 rfl) ?_
    have hP9 := hP.sub (ws' := [(a1, .inr (17, [.int 0, .ref a2, .ref a3, .ref a4, .long 0])), (q_1, .inr (4, [.int 0, .ref (dI 1000 0), .int 0]))]) [0, 1] rfl
    have hD9 := hD.sub (ws' := [(a1, .inr (17, [.int 0, .ref a2, .ref a3, .ref a4, .long 0])), (q_1, .inr (4, [.int 0, .ref (dI 1000 0), .int 0]))]) [0, 1] (by decide) rfl
    exact W.aret (v := .ref q_1) hx hb hr (Or.inl ⟨_, rfl⟩) (Or.inr ⟨_, rfl⟩) (fun t ht hW => ⟨⟨(), _, rfl, trivial, ⟨q_1, rfl, by rw [ht]; exact hP9, hD9⟩⟩, hS.F ht⟩) hS.2.2 dX12_hull_201
  · have nc_4 : ¬ (12 ≤ (nI i_k_3).toInt) := mt (xi_le (by decide +kernel) rfl).mpr c_4
    refine lv_iload_n hx hb dX12_hull_20 rfl (lv_at hl 4 rfl) ?_
    refine lv_iload hx hb dX12_hull_21 (lv_at hl 0 rfl) ?_
    refine lv_ishr hx hb dX12_hull_23 ?_
    refine lv_topi (fun f_7 ef_7 => ?_)
    obtain rfl : f_7 = 0 := ef_7.trans (xshr0 _)
    refine lv_iconst (v := 1) hx hb dX12_hull_24 (by decide) ?_
    refine lv_iand hx hb dX12_hull_25 ?_
    refine lv_topi (fun f_8 ef_8 => ?_)
    obtain rfl : f_8 = 0 := ef_8.trans (by decide)
    refine lv_iconst (v := 1) hx hb dX12_hull_26 (by decide) ?_
    refine lv_icmp_ne (tgt := 50) hx hb dX12_hull_27 (by decide) (fun c_9 => ?_) (fun c_9 => absurd c_9 (by decide))
    refine lv_iload_n hx hb dX12_hull_50 rfl (lv_at hl 1 rfl) ?_
    refine lv_istore_n (lv' := [(3, .int (-1)), (4, .int (nI i_k_3)), (2, .ref q_1), (0, .ref a1), (1, .int 0)]) hx hb dX12_hull_51 rfl hl (by decide) rfl (fun ls hl => ?_)
    refine lv_iinc (v := (nI (i_k_3 + 1))) (lv' := [(4, .int (nI (i_k_3 + 1))), (3, .int (-1)), (2, .ref q_1), (0, .ref a1), (1, .int 0)]) hx hb dX12_hull_52 hl (k := 1) rfl (nI_1 _) (by decide) rfl (fun ls hl => ?_)
    refine lv_goto (tgt := 13) hx hb dX12_hull_55 (by decide) ?_
    exact ih_k_3 _ _ _ (by omega) ⟨hP, hD, hS, lv_sub hl [0, 1, 2, 3, 4] rfl⟩
