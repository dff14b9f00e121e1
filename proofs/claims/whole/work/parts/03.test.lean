set_option maxHeartbeats 4000000 in
set_option maxRecDepth 100000 in
theorem cX11_isIn (l : Launch) (hst : l.stackTraces = false) (dC : Nat → ClassId) (dI : Nat → Nat → Nat) (T : Nat → ClassId) (sz : Nat) (p1 : Int32) : Met l yX11_isIn wsX11_isIn ({ frames := 0, cells := 0, slots := 0, locals := 0 } : Room) (va_Pc [.int 0, .int p1] (fun U => xB dC dI T [] sz U)) (va_Qi (fun (r u : Int32) => r = u) (fun (u : Int32) (t : State) => u = 0 ∧ xE dC dI [] (va_A [] sz) t) (va_A [] sz)) 0 0 (va_A [] sz) := by
  refine Met.ofW (cc := cX11_isIn) (maxL := 2) (ret := (some .boolean)) (by decide +kernel) rfl ?_
  intro p e s m args below meth c s₁ B hml hv
  obtain ⟨rfl, hsz, hP, hK, hD0, hG⟩ := hv
  have hx := B.exec
  have hb := B.bytes
  have hr := B.returns
  have hts := atoms_spec (ws := wsX11_isIn) B.pre
  have hown : s.vm.findClass RX11 = some m.cls := findClass_of_methodNamed B.named
  have hlocks := B.notSynchronized
  subst hsz
  have hD := hD0.self (sz := s.heap.size)
  generalize hAe : va_A [] s.heap.size = A at hD hG ⊢
  have hA : ∀ q : Nat, s.heap.size ≤ q → A q := fun q h => by rw [← hAe]; exact Or.inr h
  have hS : va_S A s.heap s.heap [] := va_S.rf
  have hl := lv_entry ([.int 0, .int p1]) (n := 2) (Nat.le_of_ble_eq_true rfl)
  rw [lg_entry_eq]
  generalize (lg_sl ([.int 0, .int p1]) ++ List.replicate (2 - (lg_sl ([.int 0, .int p1])).length) Slot.unset).toArray = ls at hl ⊢
  have hl : lv_has ls 2 [(0, .int 0), (1, .int p1)] := hl
  refine lv_iload_n hx hb dX11_isIn_0 rfl (lv_at hl 0 rfl) ?_
  refine lv_iload_n hx hb dX11_isIn_1 rfl (lv_at hl 1 rfl) ?_
  refine lv_ishr hx hb dX11_isIn_2 ?_
  refine lv_topi (fun f_1 ef_1 => ?_)
  obtain rfl : f_1 = 0 := ef_1.trans (xshr0 _)
  refine lv_iconst (v := 1) hx hb dX11_isIn_3 (by decide) ?_
  refine lv_iand hx hb dX11_isIn_4 ?_
  refine lv_topi (fun f_2 ef_2 => ?_)
  obtain rfl : f_2 = 0 := ef_2.trans (by decide)
  refine lv_if_eq (tgt := 12) hx hb dX11_isIn_5 (by decide) (fun c_3 => ?_) (fun c_3 => absurd (by decide) c_3)
  refine lv_iconst (v := 0) hx hb dX11_isIn_12 (by decide) ?_
  have hP9 := hP.sub (ws' := []) [] rfl
  have hD9 := hD.sub (ws' := []) [] (by decide) rfl
  exact W.zret (v := 0) hx hb hr (by decide) (fun t ht hW => ⟨⟨_, _, rfl, rfl, ⟨rfl, by rw [ht]; exact hP9, hD9⟩⟩, hS.F ht⟩) hS.2.2 dX11_isIn_13
set_option maxHeartbeats 4000000 in
set_option maxRecDepth 100000 in
theorem cX5_has (l : Launch) (hst : l.stackTraces = false) (dC : Nat → ClassId) (dI : Nat → Nat → Nat) (T : Nat → ClassId) (g : Nat) (gx : Nat) (gy : Nat) (gw : Nat) (gu : Nat) (gv : Nat) (sz : Nat) (p1 : Int32) : Met l yX5_has wsX5_has ({ frames := 1, cells := 0, slots := 0, locals := 21 } : Room) (va_Pc [.ref g, .int p1] (fun U => xB dC dI T [(g, .inr (10, [.ref gx, .ref gy, .ref gw, .ref gu, .ref gv, .int 0, .int 0]))] sz U)) (va_Qi (fun (r u : Int32) => r = u) (fun (u : Int32) (t : State) => u = 0 ∧ xE dC dI [(g, .inr (10, [.ref gx, .ref gy, .ref gw, .ref gu, .ref gv, .int 0, .int 0]))] (va_A [(g, .inr (10, [.ref gx, .ref gy, .ref gw, .ref gu, .ref gv, .int 0, .int 0]))] sz) t) (va_A [(g, .inr (10, [.ref gx, .ref gy, .ref gw, .ref gu, .ref gv, .int 0, .int 0]))] sz)) 0 0 (va_A [(g, .inr (10, [.ref gx, .ref gy, .ref gw, .ref gu, .ref gv, .int 0, .int 0]))] sz) := by
  refine Met.ofW (cc := cX5_has) (maxL := 2) (ret := (some .boolean)) (by decide +kernel) rfl ?_
  intro p e s m args below meth c s₁ B hml hv
  obtain ⟨rfl, hsz, hP, hK, hD0, hG⟩ := hv
  have hx := B.exec
  have hb := B.bytes
  have hr := B.returns
  have hts := atoms_spec (ws := wsX5_has) B.pre
  have hown : s.vm.findClass RX5 = some m.cls := findClass_of_methodNamed B.named
  have hlocks := B.notSynchronized
  have hin_X5 : ∀ w ∈ wsX50, w ∈ wsX5_has := by decide +kernel
  subst hsz
  have hD := hD0.self (sz := s.heap.size)
  generalize hAe : va_A [(g, .inr (10, [.ref gx, .ref gy, .ref gw, .ref gu, .ref gv, .int 0, .int 0]))] s.heap.size = A at hD hG ⊢
  have hA : ∀ q : Nat, s.heap.size ≤ q → A q := fun q h => by rw [← hAe]; exact Or.inr h
  have hS : va_S A s.heap s.heap [] := va_S.rf
  have hl := lv_entry ([.ref g, .int p1]) (n := 2) (Nat.le_of_ble_eq_true rfl)
  rw [lg_entry_eq]
  generalize (lg_sl ([.ref g, .int p1]) ++ List.replicate (2 - (lg_sl ([.ref g, .int p1])).length) Slot.unset).toArray = ls at hl ⊢
  have hl : lv_has ls 2 [(0, .ref g), (1, .int p1)] := hl
  refine lv_iload_n hx hb dX5_has_0 rfl (lv_at hl 1 rfl) ?_
  refine lv_if_lt (tgt := 25) hx hb dX5_has_1 (by decide) (fun c_1 => ?_) (fun c_1 => ?_)
  · refine lv_iconst (v := 0) hx hb dX5_has_25 (by decide) ?_
    have hP9 := hP.sub (ws' := [(g, .inr (10, [.ref gx, .ref gy, .ref gw, .ref gu, .ref gv, .int 0, .int 0]))]) [0] rfl
    have hD9 := hD.sub (ws' := [(g, .inr (10, [.ref gx, .ref gy, .ref gw, .ref gu, .ref gv, .int 0, .int 0]))]) [0] (by decide) rfl
    exact W.zret (v := 0) hx hb hr (by decide) (fun t ht hW => ⟨⟨_, _, rfl, rfl, ⟨rfl, by rw [ht]; exact hP9, hD9⟩⟩, hS.F ht⟩) hS.2.2 dX5_has_26
  · refine lv_iload_n hx hb dX5_has_4 rfl (lv_at hl 1 rfl) ?_
    refine lv_bipush (v := 12) hx hb dX5_has_5 (by decide) ?_
    refine lv_icmp_ge (tgt := 25) hx hb dX5_has_7 (by decide) (fun c_2 => ?_) (fun c_2 => ?_)
    · refine lv_iconst (v := 0) hx hb dX5_has_25 (by decide) ?_
      have hP9 := hP.sub (ws' := [(g, .inr (10, [.ref gx, .ref gy, .ref gw, .ref gu, .ref gv, .int 0, .int 0]))]) [0] rfl
      have hD9 := hD.sub (ws' := [(g, .inr (10, [.ref gx, .ref gy, .ref gw, .ref gu, .ref gv, .int 0, .int 0]))]) [0] (by decide) rfl
      exact W.zret (v := 0) hx hb hr (by decide) (fun t ht hW => ⟨⟨_, _, rfl, rfl, ⟨rfl, by rw [ht]; exact hP9, hD9⟩⟩, hS.F ht⟩) hS.2.2 dX5_has_26
    · refine lv_aload_n hx hb dX5_has_10 rfl (lv_at hl 0 rfl) ?_
      refine va_get (D := (dC, dI)) (ci := 10) (v := .int 0) (C := RX5) (T := TX5) (N := 7) hx hb hts hin_X5 hown hK hP 0 rfl rfl 5 (by decide) (hts (.fieldLink RX5 27 "Nearestward$Ground" "there" "I") (by decide +kernel)) (fun _ h9 => h9) rfl dX5_has_11 ?_
      refine lv_iload_n hx hb dX5_has_14 rfl (lv_at hl 1 rfl) ?_
      have hPc := hP.sub (ws' := []) [] rfl
      have hDc := hD.sub (ws' := []) [] (by decide) rfl
      have hFc := va_free (wc := []) hD hS hA [] rfl
      refine va_calli (va_runSN (As := [.int 0, .int p1]) (rest := []) ⟨hx, hb, hml, hown, hts⟩ (cX11_isIn l hst dC dI T H.size p1) ⟨(va_cnB 2 hts gX5_has_X11_isIn_n31 rfl rfl rfl (hG.2.2.1 _ (by decide +kernel)) (hts (.initialized RX11) (by decide +kernel)) (by decide +kernel) ⟨Nat.le_of_ble_eq_true rfl, Nat.le_of_ble_eq_true rfl⟩), hts (.static yX11_isIn) (by decide +kernel), trivial⟩ ⟨xBlind, xCall hK hG hS hPc hDc hFc⟩ rfl rfl hl.1 rfl (lv_room (Nat.le_of_ble_eq_true rfl)) dX5_has_15 ⟨Nat.le_of_ble_eq_true rfl, Nat.le_of_ble_eq_true rfl⟩) hS (fun q _ h => hFc q h) hFc (fun r_9 u t H1 locs ht hvm hw hB hz1 hk1 hS => ?_)
      subst hw
      rcases hB with ⟨hr_9, hP1, hD1⟩
      rw [ht] at hP1
      subst hr_9
      obtain ⟨hP, hD⟩ := va_join (wr := [(g, .inr (10, [.ref gx, .ref gy, .ref gw, .ref gu, .ref gv, .int 0, .int 0]))]) (w1 := []) hP hD [] [0] rfl rfl (by decide) (by decide) hk1 hFc hP1 hD1
      generalize H1 = H at hP hS ⊢
      have hP : va_P (dC, dI) vwCl [(g, .inr (10, [.ref gx, .ref gy, .ref gw, .ref gu, .ref gv, .int 0, .int 0]))] H := hP
      have hD : va_D A [(g, .inr (10, [.ref gx, .ref gy, .ref gw, .ref gu, .ref gv, .int 0, .int 0]))] := hD
      clear hPc hDc hFc hP1 hD1 hk1 hz1 ht hvm
      refine lv_if_eq (tgt := 25) hx hb dX5_has_18 (by decide) (fun c_4 => ?_) (fun c_4 => absurd (by decide) c_4)
      refine lv_iconst (v := 0) hx hb dX5_has_25 (by decide) ?_
      have hP9 := hP.sub (ws' := [(g, .inr (10, [.ref gx, .ref gy, .ref gw, .ref gu, .ref gv, .int 0, .int 0]))]) [0] rfl
      have hD9 := hD.sub (ws' := [(g, .inr (10, [.ref gx, .ref gy, .ref gw, .ref gu, .ref gv, .int 0, .int 0]))]) [0] (by decide) rfl
      exact W.zret (v := 0) hx hb hr (by decide) (fun t ht hW => ⟨⟨_, _, rfl, rfl, ⟨rfl, by rw [ht]; exact hP9, hD9⟩⟩, hS.F ht⟩) hS.2.2 dX5_has_26
set_option maxHeartbeats 4000000 in
set_option maxRecDepth 100000 in
theorem cX5_numberAt (l : Launch) (hst : l.stackTraces = false) (dC : Nat → ClassId) (dI : Nat → Nat → Nat) (T : Nat → ClassId) (g : Nat) (gx : Nat) (gy : Nat) (gw : Nat) (gu : Nat) (gv : Nat) (sz : Nat) (p1 : Int32) (p2 : Int32) : Met l yX5_numberAt wsX5_numberAt ({ frames := 2, cells := 0, slots := 0, locals := 42 } : Room) (va_Pc [.ref g, .int p1, .int p2] (fun U => xB dC dI T [(g, .inr (10, [.ref gx, .ref gy, .ref gw, .ref gu, .ref gv, .int 0, .int 0]))] sz U)) (va_Qi (fun (r u : Int32) => r = u) (fun (u : Int32) (t : State) => u = (-1) ∧ xE dC dI [(g, .inr (10, [.ref gx, .ref gy, .ref gw, .ref gu, .ref gv, .int 0, .int 0]))] (va_A [(g, .inr (10, [.ref gx, .ref gy, .ref gw, .ref gu, .ref gv, .int 0, .int 0]))] sz) t) (va_A [(g, .inr (10, [.ref gx, .ref gy, .ref gw, .ref gu, .ref gv, .int 0, .int 0]))] sz)) 0 0 (va_A [(g, .inr (10, [.ref gx, .ref gy, .ref gw, .ref gu, .ref gv, .int 0, .int 0]))] sz) := by
  refine Met.ofW (cc := cX5_numberAt) (maxL := 4) (ret := (some .int)) (by decide +kernel) rfl ?_
  intro p e s m args below meth c s₁ B hml hv
  obtain ⟨rfl, hsz, hP, hK, hD0, hG⟩ := hv
  have hx := B.exec
  have hb := B.bytes
  have hr := B.returns
  have hts := atoms_spec (ws := wsX5_numberAt) B.pre
  have hown : s.vm.findClass RX5 = some m.cls := findClass_of_methodNamed B.named
  have hlocks := B.notSynchronized
  subst hsz
  have hD := hD0.self (sz := s.heap.size)
  generalize hAe : va_A [(g, .inr (10, [.ref gx, .ref gy, .ref gw, .ref gu, .ref gv, .int 0, .int 0]))] s.heap.size = A at hD hG ⊢
  have hA : ∀ q : Nat, s.heap.size ≤ q → A q := fun q h => by rw [← hAe]; exact Or.inr h
  have hS : va_S A s.heap s.heap [] := va_S.rf
  have hl := lv_entry ([.ref g, .int p1, .int p2]) (n := 4) (Nat.le_of_ble_eq_true rfl)
  rw [lg_entry_eq]
  generalize (lg_sl ([.ref g, .int p1, .int p2]) ++ List.replicate (4 - (lg_sl ([.ref g, .int p1, .int p2])).length) Slot.unset).toArray = ls at hl ⊢
  have hl : lv_has ls 4 [(0, .ref g), (1, .int p1), (2, .int p2)] := hl
  refine lv_iconst (v := 0) hx hb dX5_numberAt_0 (by decide) ?_
  refine lv_istore_n (lv' := [(3, .int 0), (0, .ref g), (1, .int p1), (2, .int p2)]) hx hb dX5_numberAt_1 rfl hl (by decide) rfl (fun ls hl => ?_)
  refine xLoop (P := fun i H locs ls => ∃ (x : Int32), x = nI i ∧ va_P (dC, dI) vwCl [(g, .inr (10, [.ref gx, .ref gy, .ref gw, .ref gu, .ref gv, .int 0, .int 0]))] H ∧ va_D A [(g, .inr (10, [.ref gx, .ref gy, .ref gw, .ref gu, .ref gv, .int 0, .int 0]))] ∧ va_S A s.heap H locs ∧ lv_has ls 4 [(3, .int x), (0, .ref g), (1, .int p1), (2, .int p2)]) (N := 12) (fun i_k_1 H locs ls hi_k_1 hI ih_k_1 => ?_) 0 _ _ _ (by omega) ⟨_, (by decide), hP, hD, hS, hl⟩
  obtain ⟨x_k_1, ex_k_1, hP, hD, hS, hl⟩ := hI
  refine lv_iload_n hx hb dX5_numberAt_2 rfl (lv_at hl 0 rfl) ?_
  refine lv_bipush (v := 12) hx hb dX5_numberAt_3 (by decide) ?_
  refine lv_icmp_ge (tgt := 44) hx hb dX5_numberAt_5 (by decide) (fun c_2 => ?_) (fun c_2 => ?_)
  · refine lv_iconst (v := (-1)) hx hb dX5_numberAt_44 (by decide) ?_
    have hP9 := hP.sub (ws' := [(g, .inr (10, [.ref gx, .ref gy, .ref gw, .ref gu, .ref gv, .int 0, .int 0]))]) [0] rfl
    have hD9 := hD.sub (ws' := [(g, .inr (10, [.ref gx, .ref gy, .ref gw, .ref gu, .ref gv, .int 0, .int 0]))]) [0] (by decide) rfl
    exact W.iret (v := (-1)) hx hb hr (fun t ht hW => ⟨⟨_, _, rfl, rfl, ⟨rfl, by rw [ht]; exact hP9, hD9⟩⟩, hS.F ht⟩) hS.2.2 dX5_numberAt_45
  · have hlt_c_2 : i_k_1 < 12 := xlt ex_k_1 (M := 12) (by decide) hi_k_1 (by decide) c_2
    refine lv_aload_n hx hb dX5_numberAt_8 rfl (lv_at hl 1 rfl) ?_
    refine lv_iload_n hx hb dX5_numberAt_9 rfl (lv_at hl 0 rfl) ?_
    have hPc := hP.sub (ws' := [(g, .inr (10, [.ref gx, .ref gy, .ref gw, .ref gu, .ref gv, .int 0, .int 0]))]) [0] rfl
    have hDc := hD.sub (ws' := [(g, .inr (10, [.ref gx, .ref gy, .ref gw, .ref gu, .ref gv, .int 0, .int 0]))]) [0] (by decide) rfl
    have hFc := va_free (wc := [(g, .inr (10, [.ref gx, .ref gy, .ref gw, .ref gu, .ref gv, .int 0, .int 0]))]) hD hS hA [0] rfl
    refine va_calli (va_runV (As := [.int x_k_1]) (rest := []) ⟨hx, hb, hml, hown, hts⟩ (cX5_has l hst dC dI T g gx gy gw gu gv H.size x_k_1) (cwV 1 hts gX5_numberAt_X5_has rfl rfl rfl (by decide +kernel) ⟨Nat.le_of_ble_eq_true rfl, Nat.le_of_ble_eq_true rfl⟩) ⟨xBlind, va_recv hK hPc (ci := 10) (q0 := 0) rfl rfl, xCall hK hG hS hPc hDc hFc⟩ rfl rfl hl.1 rfl (lv_room (Nat.le_of_ble_eq_true rfl)) dX5_numberAt_10 ⟨Nat.le_of_ble_eq_true rfl, Nat.le_of_ble_eq_true rfl⟩) hS (fun q _ h => hFc q h) hFc (fun r_9 u t H1 locs ht hvm hw hB hz1 hk1 hS => ?_)
    subst hw
    rcases hB with ⟨hr_9, hP1, hD1⟩
    rw [ht] at hP1
    subst hr_9
    obtain ⟨hP, hD⟩ := va_join (wr := []) (w1 := [(g, .inr (10, [.ref gx, .ref gy, .ref gw, .ref gu, .ref gv, .int 0, .int 0]))]) hP hD [0] [] rfl rfl (by decide) (by decide) hk1 hFc hP1 hD1
    generalize H1 = H at hP hS ⊢
    have hP : va_P (dC, dI) vwCl [(g, .inr (10, [.ref gx, .ref gy, .ref gw, .ref gu, .ref gv, .int 0, .int 0]))] H := hP
    have hD : va_D A [(g, .inr (10, [.ref gx, .ref gy, .ref gw, .ref gu, .ref gv, .int 0, .int 0]))] := hD
    clear hPc hDc hFc hP1 hD1 hk1 hz1 ht hvm
    refine lv_if_eq (tgt := 38) hx hb dX5_numberAt_13 (by decide) (fun c_4 => ?_) (fun c_4 => absurd (by decide) c_4)
    obtain ⟨x_5, ex_5⟩ : ∃ y : Int32, y = x_k_1 + 1 := ⟨_, rfl⟩
    have nx_5 : x_5 = nI (i_k_1 + 1) := by rw [ex_5, ex_k_1]; exact nI_1 _
    refine lv_iinc (v := x_5) (lv' := [(3, .int x_5), (0, .ref g), (1, .int p1), (2, .int p2)]) hx hb dX5_numberAt_38 hl (k := 0) rfl (by rw [ex_5]; rfl) (by decide) rfl (fun ls hl => ?_)
    refine lv_goto (tgt := 2) hx hb dX5_numberAt_41 (by decide) ?_
    exact ih_k_1 _ _ _ (by omega) ⟨x_5, nx_5, hP, hD, hS, lv_sub hl [0, 1, 2, 3] rfl⟩
set_option maxHeartbeats 4000000 in
set_option maxRecDepth 100000 in
theorem cX11_needRange (l : Launch) (hst : l.stackTraces = false) (dC : Nat → ClassId) (dI : Nat → Nat → Nat) (T : Nat → ClassId) (sz : Nat) (p1 : Int32) (p2 : Int32) (p3 : Int32) : vx_Met l yX11_needRange wsX11_needRange ({ frames := 6, cells := 1, slots := 6, locals := 82 } : Room) (va_Pc [.int p1, .int p2, .int p3] (fun U => xB dC dI T [] sz U)) (va_Qv (fun _ : Unit => True) (fun (_ : Unit) (t : State) => ((¬ (p1 < p2)) ∧ (p1 ≤ p3)) ∧ xE dC dI [] (va_A [] sz) t) (va_A [] sz)) (vx_X (fun _ : Unit => True) (fun (E : String) (_ : Unit) (t : State) => (((p1 < p2)) ∨ ((¬ (p1 < p2)) ∧ (¬ (p1 ≤ p3)))) ∧ E = "java/lang/IllegalArgumentException" ∧ xE dC dI [] (va_A [] sz) t) (va_A [] sz)) 1 6 (va_A [] sz) := by
  refine vx_ofW (cc := cX11_needRange) (maxL := 3) (ret := none) (by decide +kernel) rfl ?_
  intro p e s m args below meth c s₁ B hml hex hv
  obtain ⟨rfl, hsz, hP, hK, hD0, hG⟩ := hv
  have hx := B.exec
  have hb := B.bytes
  have hr := B.returns
  have hts := atoms_spec (ws := wsX11_needRange) B.pre
  have hown : s.vm.findClass RX11 = some m.cls := findClass_of_methodNamed B.named
  have hlocks := B.notSynchronized
  have hm_214 : ∀ w ∈ (vx_atS RX11 214 "java/lang/IllegalArgumentException" ["java/lang/RuntimeException", "java/lang/Exception"]).filter goodWord, w ∈ wsX11_needRange := by decide +kernel
  have hat_214 : ∀ w ∈ vx_atS RX11 214 "java/lang/IllegalArgumentException" ["java/lang/RuntimeException", "java/lang/Exception"], w.before args s = true := vx_hat (B := [.castable "java/lang/IllegalArgumentException" "java/lang/IllegalArgumentException"]) (fun w hw => hts w (hm_214 w hw)) (by decide +kernel) (vx_c (va_Nw.use rfl (hG.2.2.2.1 _ (by decide +kernel))) vx_n)
  subst hsz
  have hD := hD0.self (sz := s.heap.size)
  generalize hAe : va_A [] s.heap.size = A at hD hG ⊢
  have hA : ∀ q : Nat, s.heap.size ≤ q → A q := fun q h => by rw [← hAe]; exact Or.inr h
  have hS : va_S A s.heap s.heap [] := va_S.rf
  have hl := lv_entry ([.int p1, .int p2, .int p3]) (n := 3) (Nat.le_of_ble_eq_true rfl)
  rw [lg_entry_eq]
  generalize (lg_sl ([.int p1, .int p2, .int p3]) ++ List.replicate (3 - (lg_sl ([.int p1, .int p2, .int p3])).length) Slot.unset).toArray = ls at hl ⊢
  have hl : lv_has ls 3 [(0, .int p1), (1, .int p2), (2, .int p3)] := hl
  refine lv_iload_n hx hb dX11_needRange_0 rfl (lv_at hl 0 rfl) ?_
  refine lv_iload_n hx hb dX11_needRange_1 rfl (lv_at hl 1 rfl) ?_
  refine lv_icmp_lt (tgt := 10) hx hb dX11_needRange_2 (by decide) (fun c_1 => ?_) (fun c_1 => ?_)
  · obtain ⟨sa, hsa⟩ := hG.2.2.2.2 (RX11, 385, "a number is out of range") (by decide +kernel)
    have hP9 := hP.sub (ws' := []) [] rfl
    have hD9 := hD.sub (ws' := []) [] (by decide) rfl
    exact vx_throwSW (cls := "java/lang/IllegalArgumentException") (names := ["java/lang/RuntimeException", "java/lang/Exception"]) (text := "a number is out of range") (ic := 214) hx hb hst hown (by decide +kernel) (by decide +kernel) (hts (.classLink RX11 210 "java/lang/IllegalArgumentException") (by decide +kernel)) (hts (.initialized "java/lang/IllegalArgumentException") (by decide +kernel)) hsa hat_214 (by decide +kernel) hG.1 hG.2.1 hS (by rw [hml]; exact hl.1) dX11_needRange_10 dX11_needRange_13 dX11_needRange_14 dX11_needRange_17 dX11_needRange_20 (fun x hx => absurd (hex x hx) id) (Nat.le_of_ble_eq_true rfl) (Nat.le_of_ble_eq_true rfl) (Nat.le_of_ble_eq_true rfl) (Nat.le_of_ble_eq_true rfl) hlocks (fun t hvm hz1 hk1 => ⟨(), trivial, ⟨(Or.inl c_1), rfl, hP9.kept (fun k x hx => hk1 x.1 ((hP9 k x hx).lt)), hD9⟩, xthrF hS hz1 hk1⟩) hS.2.2 (Nat.le_of_ble_eq_true rfl) (Nat.le_of_ble_eq_true rfl)
  · refine lv_iload_n hx hb dX11_needRange_5 rfl (lv_at hl 0 rfl) ?_
    refine lv_iload_n hx hb dX11_needRange_6 rfl (lv_at hl 2 rfl) ?_
    refine lv_icmp_le (tgt := 21) hx hb dX11_needRange_7 (by decide) (fun c_2 => ?_) (fun c_2 => ?_)
    · refine vx_ret ?_
      have hP9 := hP.sub (ws' := []) [] rfl
      have hD9 := hD.sub (ws' := []) [] (by decide) rfl
      refine W.widen (k := 1) (n := 6) (Nat.le_of_ble_eq_true rfl) (Nat.le_of_ble_eq_true rfl) ?_
      exact W.vret hx hb hr (fun t ht hW => ⟨⟨(), rfl, trivial, ⟨⟨c_1, c_2⟩, by rw [ht]; exact hP9, hD9⟩⟩, hS.F ht⟩) hS.2.2 dX11_needRange_21
    · obtain ⟨sa, hsa⟩ := hG.2.2.2.2 (RX11, 385, "a number is out of range") (by decide +kernel)
      have hP9 := hP.sub (ws' := []) [] rfl
      have hD9 := hD.sub (ws' := []) [] (by decide) rfl
      exact vx_throwSW (cls := "java/lang/IllegalArgumentException") (names := ["java/lang/RuntimeException", "java/lang/Exception"]) (text := "a number is out of range") (ic := 214) hx hb hst hown (by decide +kernel) (by decide +kernel) (hts (.classLink RX11 210 "java/lang/IllegalArgumentException") (by decide +kernel)) (hts (.initialized "java/lang/IllegalArgumentException") (by decide +kernel)) hsa hat_214 (by decide +kernel) hG.1 hG.2.1 hS (by rw [hml]; exact hl.1) dX11_needRange_10 dX11_needRange_13 dX11_needRange_14 dX11_needRange_17 dX11_needRange_20 (fun x hx => absurd (hex x hx) id) (Nat.le_of_ble_eq_true rfl) (Nat.le_of_ble_eq_true rfl) (Nat.le_of_ble_eq_true rfl) (Nat.le_of_ble_eq_true rfl) hlocks (fun t hvm hz1 hk1 => ⟨(), trivial, ⟨((Or.inr (⟨c_1, c_2⟩))), rfl, hP9.kept (fun k x hx => hk1 x.1 ((hP9 k x hx).lt)), hD9⟩, xthrF hS hz1 hk1⟩) hS.2.2 (Nat.le_of_ble_eq_true rfl) (Nat.le_of_ble_eq_true rfl)
set_option maxHeartbeats 4000000 in
set_option maxRecDepth 100000 in
theorem cX11_needBoth_100 (l : Launch) (hst : l.stackTraces = false) (dC : Nat → ClassId) (dI : Nat → Nat → Nat) (T : Nat → ClassId) (sz : Nat) (p1 : Int32) (p2 : Int32) : vx_Met l yX11_needBoth wsX11_needBoth ({ frames := 7, cells := 2, slots := 12, locals := 104 } : Room) (va_Pc [.int p1, .int p2, .int 100] (fun U => xB dC dI T [] sz U)) (va_Qv (fun _ : Unit => True) (fun (_ : Unit) (t : State) => (((¬ (p1 < (-100))) ∧ (p1 ≤ 100)) ∧ ((¬ (p2 < (-100))) ∧ (p2 ≤ 100))) ∧ xE dC dI [] (va_A [] sz) t) (va_A [] sz)) (vx_X (fun _ : Unit => True) (fun (E : String) (_ : Unit) (t : State) => (((((p1 < (-100))) ∨ ((¬ (p1 < (-100))) ∧ (¬ (p1 ≤ 100))))) ∨ (((¬ (p1 < (-100))) ∧ (p1 ≤ 100)) ∧ (((p2 < (-100))) ∨ ((¬ (p2 < (-100))) ∧ (¬ (p2 ≤ 100)))))) ∧ E = "java/lang/IllegalArgumentException" ∧ xE dC dI [] (va_A [] sz) t) (va_A [] sz)) 2 12 (va_A [] sz) := by
  refine vx_ofW (cc := cX11_needBoth) (maxL := 3) (ret := none) (by decide +kernel) rfl ?_
  intro p e s m args below meth c s₁ B hml hex hv
  obtain ⟨rfl, hsz, hP, hK, hD0, hG⟩ := hv
  have hx := B.exec
  have hb := B.bytes
  have hr := B.returns
  have hts := atoms_spec (ws := wsX11_needBoth) B.pre
  have hown : s.vm.findClass RX11 = some m.cls := findClass_of_methodNamed B.named
  have hlocks := B.notSynchronized
  subst hsz
  have hD := hD0.self (sz := s.heap.size)
  generalize hAe : va_A [] s.heap.size = A at hD hG ⊢
  have hA : ∀ q : Nat, s.heap.size ≤ q → A q := fun q h => by rw [← hAe]; exact Or.inr h
  have hS : va_S A s.heap s.heap [] := va_S.rf
  have hl := lv_entry ([.int p1, .int p2, .int 100]) (n := 3) (Nat.le_of_ble_eq_true rfl)
  rw [lg_entry_eq]
  generalize (lg_sl ([.int p1, .int p2, .int 100]) ++ List.replicate (3 - (lg_sl ([.int p1, .int p2, .int 100])).length) Slot.unset).toArray = ls at hl ⊢
  have hl : lv_has ls 3 [(0, .int p1), (1, .int p2), (2, .int 100)] := hl
  refine lv_iload_n hx hb dX11_needBoth_0 rfl (lv_at hl 0 rfl) ?_
  refine lv_iload_n hx hb dX11_needBoth_1 rfl (lv_at hl 2 rfl) ?_
  refine lv_ineg hx hb dX11_needBoth_2 ?_
  refine lv_topi (fun f_1 ef_1 => ?_)
  obtain rfl : f_1 = (-100) := ef_1.trans (by decide)
  refine lv_iload_n hx hb dX11_needBoth_3 rfl (lv_at hl 2 rfl) ?_
  have hPc := hP.sub (ws' := []) [] rfl
  have hDc := hD.sub (ws' := []) [] (by decide) rfl
  have hFc := va_free (wc := []) hD hS hA [] rfl
  refine vx_callv (vx_runS (As := [.int p1, .int (-100), .int 100]) (rest := []) ⟨hx, hb, hml, hown, hts⟩ (cX11_needRange l hst dC dI T H.size p1 (-100) 100) (cwS 3 hts gX11_needBoth_X11_needRange rfl rfl rfl (by decide +kernel) ⟨Nat.le_of_ble_eq_true rfl, Nat.le_of_ble_eq_true rfl⟩) ⟨xBlind, xCall hK hG hS hPc hDc hFc⟩ rfl rfl hl.1 rfl (lv_room (Nat.le_of_ble_eq_true rfl)) dX11_needBoth_4 ⟨Nat.le_of_ble_eq_true rfl, Nat.le_of_ble_eq_true rfl⟩) hS (fun q _ h => hFc q h) hFc (fun q _ h => hFc q h) (fun E ce q9 u t H1 locs ht hvm hw hB hz1 hk1 hS hce hcv hcl => ?_) (fun u t H1 locs ht hvm hw hB hz1 hk1 hS => ?_)
  · rcases hB with ⟨c_2, hE, hP1, hD1⟩
    subst hE
    rw [ht] at hP1
    obtain ⟨hP, hD⟩ := va_join (wr := []) (w1 := []) hP hD [] [] rfl rfl (by decide) (by decide) hk1 hFc hP1 hD1
    generalize H1 = H at hP hS ⊢
    have hP : va_P (dC, dI) vwCl [] H := hP
    have hD : va_D A [] := hD
    clear hPc hDc hFc hP1 hD1 hk1 hz1 ht hvm
    exact vx_out (fun x hx => absurd (hex x hx) id) hlocks hce hcv hcl (fun t ht _ => ⟨(), trivial, ⟨(Or.inl c_2), rfl, by rw [ht]; exact hP, hD⟩, hS.F ht⟩) hS.2.2 (Nat.le_of_ble_eq_true rfl) (Nat.le_of_ble_eq_true rfl)
  · rcases hB with ⟨c_3, hP1, hD1⟩
    rw [ht] at hP1
    obtain ⟨hP, hD⟩ := va_join (wr := []) (w1 := []) hP hD [] [] rfl rfl (by decide) (by decide) hk1 hFc hP1 hD1
    generalize H1 = H at hP hS ⊢
    have hP : va_P (dC, dI) vwCl [] H := hP
    have hD : va_D A [] := hD
    clear hPc hDc hFc hP1 hD1 hk1 hz1 ht hvm
    refine lv_iload_n hx hb dX11_needBoth_7 rfl (lv_at hl 1 rfl) ?_
    refine lv_iload_n hx hb dX11_needBoth_8 rfl (lv_at hl 2 rfl) ?_
    refine lv_ineg hx hb dX11_needBoth_9 ?_
    refine lv_topi (fun f_4 ef_4 => ?_)
    obtain rfl : f_4 = (-100) := ef_4.trans (by decide)
    refine lv_iload_n hx hb dX11_needBoth_10 rfl (lv_at hl 2 rfl) ?_
    have hPc := hP.sub (ws' := []) [] rfl
    have hDc := hD.sub (ws' := []) [] (by decide) rfl
    have hFc := va_free (wc := []) hD hS hA [] rfl
    refine vx_callv (vx_runS (As := [.int p2, .int (-100), .int 100]) (rest := []) ⟨hx, hb, hml, hown, hts⟩ (cX11_needRange l hst dC dI T H.size p2 (-100) 100) (cwS 3 hts gX11_needBoth_X11_needRange rfl rfl rfl (by decide +kernel) ⟨Nat.le_of_ble_eq_true rfl, Nat.le_of_ble_eq_true rfl⟩) ⟨xBlind, xCall hK hG hS hPc hDc hFc⟩ rfl rfl hl.1 rfl (lv_room (Nat.le_of_ble_eq_true rfl)) dX11_needBoth_11 ⟨Nat.le_of_ble_eq_true rfl, Nat.le_of_ble_eq_true rfl⟩) hS (fun q _ h => hFc q h) hFc (fun q _ h => hFc q h) (fun E ce q9 u t H1 locs ht hvm hw hB hz1 hk1 hS hce hcv hcl => ?_) (fun u t H1 locs ht hvm hw hB hz1 hk1 hS => ?_)
    · rcases hB with ⟨c_5, hE, hP1, hD1⟩
      subst hE
      rw [ht] at hP1
      obtain ⟨hP, hD⟩ := va_join (wr := []) (w1 := []) hP hD [] [] rfl rfl (by decide) (by decide) hk1 hFc hP1 hD1
      generalize H1 = H at hP hS ⊢
      have hP : va_P (dC, dI) vwCl [] H := hP
      have hD : va_D A [] := hD
      clear hPc hDc hFc hP1 hD1 hk1 hz1 ht hvm
      exact vx_out (fun x hx => absurd (hex x hx) id) hlocks hce hcv hcl (fun t ht _ => ⟨(), trivial, ⟨((Or.inr (⟨c_3, c_5⟩))), rfl, by rw [ht]; exact hP, hD⟩, hS.F ht⟩) hS.2.2 (Nat.le_of_ble_eq_true rfl) (Nat.le_of_ble_eq_true rfl)
    · rcases hB with ⟨c_6, hP1, hD1⟩
      rw [ht] at hP1
      obtain ⟨hP, hD⟩ := va_join (wr := []) (w1 := []) hP hD [] [] rfl rfl (by decide) (by decide) hk1 hFc hP1 hD1
      generalize H1 = H at hP hS ⊢
      have hP : va_P (dC, dI) vwCl [] H := hP
      have hD : va_D A [] := hD
      clear hPc hDc hFc hP1 hD1 hk1 hz1 ht hvm
      refine vx_ret ?_
      have hP9 := hP.sub (ws' := []) [] rfl
      have hD9 := hD.sub (ws' := []) [] (by decide) rfl
      exact W.vret hx hb hr (fun t ht hW => ⟨⟨(), rfl, trivial, ⟨⟨c_3, c_6⟩, by rw [ht]; exact hP9, hD9⟩⟩, hS.F ht⟩) hS.2.2 dX11_needBoth_14
set_option maxHeartbeats 4000000 in
set_option maxRecDepth 100000 in
theorem cX11_needBoth_999 (l : Launch) (hst : l.stackTraces = false) (dC : Nat → ClassId) (dI : Nat → Nat → Nat) (T : Nat → ClassId) (sz : Nat) (p1 : Int32) (p2 : Int32) : vx_Met l yX11_needBoth wsX11_needBoth ({ frames := 7, cells := 2, slots := 12, locals := 104 } : Room) (va_Pc [.int p1, .int p2, .int 999] (fun U => xB dC dI T [] sz U)) (va_Qv (fun _ : Unit => True) (fun (_ : Unit) (t : State) => (((¬ (p1 < (-999))) ∧ (p1 ≤ 999)) ∧ ((¬ (p2 < (-999))) ∧ (p2 ≤ 999))) ∧ xE dC dI [] (va_A [] sz) t) (va_A [] sz)) (vx_X (fun _ : Unit => True) (fun (E : String) (_ : Unit) (t : State) => (((((p1 < (-999))) ∨ ((¬ (p1 < (-999))) ∧ (¬ (p1 ≤ 999))))) ∨ (((¬ (p1 < (-999))) ∧ (p1 ≤ 999)) ∧ (((p2 < (-999))) ∨ ((¬ (p2 < (-999))) ∧ (¬ (p2 ≤ 999)))))) ∧ E = "java/lang/IllegalArgumentException" ∧ xE dC dI [] (va_A [] sz) t) (va_A [] sz)) 2 12 (va_A [] sz) := by
  refine vx_ofW (cc := cX11_needBoth) (maxL := 3) (ret := none) (by decide +kernel) rfl ?_
  intro p e s m args below meth c s₁ B hml hex hv
  obtain ⟨rfl, hsz, hP, hK, hD0, hG⟩ := hv
  have hx := B.exec
  have hb := B.bytes
  have hr := B.returns
  have hts := atoms_spec (ws := wsX11_needBoth) B.pre
  have hown : s.vm.findClass RX11 = some m.cls := findClass_of_methodNamed B.named
  have hlocks := B.notSynchronized
  subst hsz
  have hD := hD0.self (sz := s.heap.size)
  generalize hAe : va_A [] s.heap.size = A at hD hG ⊢
  have hA : ∀ q : Nat, s.heap.size ≤ q → A q := fun q h => by rw [← hAe]; exact Or.inr h
  have hS : va_S A s.heap s.heap [] := va_S.rf
  have hl := lv_entry ([.int p1, .int p2, .int 999]) (n := 3) (Nat.le_of_ble_eq_true rfl)
  rw [lg_entry_eq]
  generalize (lg_sl ([.int p1, .int p2, .int 999]) ++ List.replicate (3 - (lg_sl ([.int p1, .int p2, .int 999])).length) Slot.unset).toArray = ls at hl ⊢
  have hl : lv_has ls 3 [(0, .int p1), (1, .int p2), (2, .int 999)] := hl
  refine lv_iload_n hx hb dX11_needBoth_0 rfl (lv_at hl 0 rfl) ?_
  refine lv_iload_n hx hb dX11_needBoth_1 rfl (lv_at hl 2 rfl) ?_
  refine lv_ineg hx hb dX11_needBoth_2 ?_
  refine lv_topi (fun f_1 ef_1 => ?_)
  obtain rfl : f_1 = (-999) := ef_1.trans (by decide)
  refine lv_iload_n hx hb dX11_needBoth_3 rfl (lv_at hl 2 rfl) ?_
  have hPc := hP.sub (ws' := []) [] rfl
  have hDc := hD.sub (ws' := []) [] (by decide) rfl
  have hFc := va_free (wc := []) hD hS hA [] rfl
  refine vx_callv (vx_runS (As := [.int p1, .int (-999), .int 999]) (rest := []) ⟨hx, hb, hml, hown, hts⟩ (cX11_needRange l hst dC dI T H.size p1 (-999) 999) (cwS 3 hts gX11_needBoth_X11_needRange rfl rfl rfl (by decide +kernel) ⟨Nat.le_of_ble_eq_true rfl, Nat.le_of_ble_eq_true rfl⟩) ⟨xBlind, xCall hK hG hS hPc hDc hFc⟩ rfl rfl hl.1 rfl (lv_room (Nat.le_of_ble_eq_true rfl)) dX11_needBoth_4 ⟨Nat.le_of_ble_eq_true rfl, Nat.le_of_ble_eq_true rfl⟩) hS (fun q _ h => hFc q h) hFc (fun q _ h => hFc q h) (fun E ce q9 u t H1 locs ht hvm hw hB hz1 hk1 hS hce hcv hcl => ?_) (fun u t H1 locs ht hvm hw hB hz1 hk1 hS => ?_)
  · rcases hB with ⟨c_2, hE, hP1, hD1⟩
    subst hE
    rw [ht] at hP1
    obtain ⟨hP, hD⟩ := va_join (wr := []) (w1 := []) hP hD [] [] rfl rfl (by decide) (by decide) hk1 hFc hP1 hD1
    generalize H1 = H at hP hS ⊢
    have hP : va_P (dC, dI) vwCl [] H := hP
    have hD : va_D A [] := hD
    clear hPc hDc hFc hP1 hD1 hk1 hz1 ht hvm
    exact vx_out (fun x hx => absurd (hex x hx) id) hlocks hce hcv hcl (fun t ht _ => ⟨(), trivial, ⟨(Or.inl c_2), rfl, by rw [ht]; exact hP, hD⟩, hS.F ht⟩) hS.2.2 (Nat.le_of_ble_eq_true rfl) (Nat.le_of_ble_eq_true rfl)
  · rcases hB with ⟨c_3, hP1, hD1⟩
    rw [ht] at hP1
    obtain ⟨hP, hD⟩ := va_join (wr := []) (w1 := []) hP hD [] [] rfl rfl (by decide) (by decide) hk1 hFc hP1 hD1
    generalize H1 = H at hP hS ⊢
    have hP : va_P (dC, dI) vwCl [] H := hP
    have hD : va_D A [] := hD
    clear hPc hDc hFc hP1 hD1 hk1 hz1 ht hvm
    refine lv_iload_n hx hb dX11_needBoth_7 rfl (lv_at hl 1 rfl) ?_
    refine lv_iload_n hx hb dX11_needBoth_8 rfl (lv_at hl 2 rfl) ?_
    refine lv_ineg hx hb dX11_needBoth_9 ?_
    refine lv_topi (fun f_4 ef_4 => ?_)
    obtain rfl : f_4 = (-999) := ef_4.trans (by decide)
    refine lv_iload_n hx hb dX11_needBoth_10 rfl (lv_at hl 2 rfl) ?_
    have hPc := hP.sub (ws' := []) [] rfl
    have hDc := hD.sub (ws' := []) [] (by decide) rfl
    have hFc := va_free (wc := []) hD hS hA [] rfl
    refine vx_callv (vx_runS (As := [.int p2, .int (-999), .int 999]) (rest := []) ⟨hx, hb, hml, hown, hts⟩ (cX11_needRange l hst dC dI T H.size p2 (-999) 999) (cwS 3 hts gX11_needBoth_X11_needRange rfl rfl rfl (by decide +kernel) ⟨Nat.le_of_ble_eq_true rfl, Nat.le_of_ble_eq_true rfl⟩) ⟨xBlind, xCall hK hG hS hPc hDc hFc⟩ rfl rfl hl.1 rfl (lv_room (Nat.le_of_ble_eq_true rfl)) dX11_needBoth_11 ⟨Nat.le_of_ble_eq_true rfl, Nat.le_of_ble_eq_true rfl⟩) hS (fun q _ h => hFc q h) hFc (fun q _ h => hFc q h) (fun E ce q9 u t H1 locs ht hvm hw hB hz1 hk1 hS hce hcv hcl => ?_) (fun u t H1 locs ht hvm hw hB hz1 hk1 hS => ?_)
    · rcases hB with ⟨c_5, hE, hP1, hD1⟩
      subst hE
      rw [ht] at hP1
      obtain ⟨hP, hD⟩ := va_join (wr := []) (w1 := []) hP hD [] [] rfl rfl (by decide) (by decide) hk1 hFc hP1 hD1
      generalize H1 = H at hP hS ⊢
      have hP : va_P (dC, dI) vwCl [] H := hP
      have hD : va_D A [] := hD
      clear hPc hDc hFc hP1 hD1 hk1 hz1 ht hvm
      exact vx_out (fun x hx => absurd (hex x hx) id) hlocks hce hcv hcl (fun t ht _ => ⟨(), trivial, ⟨((Or.inr (⟨c_3, c_5⟩))), rfl, by rw [ht]; exact hP, hD⟩, hS.F ht⟩) hS.2.2 (Nat.le_of_ble_eq_true rfl) (Nat.le_of_ble_eq_true rfl)
    · rcases hB with ⟨c_6, hP1, hD1⟩
      rw [ht] at hP1
      obtain ⟨hP, hD⟩ := va_join (wr := []) (w1 := []) hP hD [] [] rfl rfl (by decide) (by decide) hk1 hFc hP1 hD1
      generalize H1 = H at hP hS ⊢
      have hP : va_P (dC, dI) vwCl [] H := hP
      have hD : va_D A [] := hD
      clear hPc hDc hFc hP1 hD1 hk1 hz1 ht hvm
      refine vx_ret ?_
      have hP9 := hP.sub (ws' := []) [] rfl
      have hD9 := hD.sub (ws' := []) [] (by decide) rfl
      exact W.vret hx hb hr (fun t ht hW => ⟨⟨(), rfl, trivial, ⟨⟨c_3, c_6⟩, by rw [ht]; exact hP9, hD9⟩⟩, hS.F ht⟩) hS.2.2 dX11_needBoth_14
set_option maxHeartbeats 4000000 in
set_option maxRecDepth 100000 in
theorem cX11_needBoth_9 (l : Launch) (hst : l.stackTraces = false) (dC : Nat → ClassId) (dI : Nat → Nat → Nat) (T : Nat → ClassId) (sz : Nat) (p1 : Int32) (p2 : Int32) : vx_Met l yX11_needBoth wsX11_needBoth ({ frames := 7, cells := 2, slots := 12, locals := 104 } : Room) (va_Pc [.int p1, .int p2, .int 9] (fun U => xB dC dI T [] sz U)) (va_Qv (fun _ : Unit => True) (fun (_ : Unit) (t : State) => (((¬ (p1 < (-9))) ∧ (p1 ≤ 9)) ∧ ((¬ (p2 < (-9))) ∧ (p2 ≤ 9))) ∧ xE dC dI [] (va_A [] sz) t) (va_A [] sz)) (vx_X (fun _ : Unit => True) (fun (E : String) (_ : Unit) (t : State) => (((((p1 < (-9))) ∨ ((¬ (p1 < (-9))) ∧ (¬ (p1 ≤ 9))))) ∨ (((¬ (p1 < (-9))) ∧ (p1 ≤ 9)) ∧ (((p2 < (-9))) ∨ ((¬ (p2 < (-9))) ∧ (¬ (p2 ≤ 9)))))) ∧ E = "java/lang/IllegalArgumentException" ∧ xE dC dI [] (va_A [] sz) t) (va_A [] sz)) 2 12 (va_A [] sz) := by
  refine vx_ofW (cc := cX11_needBoth) (maxL := 3) (ret := none) (by decide +kernel) rfl ?_
  intro p e s m args below meth c s₁ B hml hex hv
  obtain ⟨rfl, hsz, hP, hK, hD0, hG⟩ := hv
  have hx := B.exec
  have hb := B.bytes
  have hr := B.returns
  have hts := atoms_spec (ws := wsX11_needBoth) B.pre
  have hown : s.vm.findClass RX11 = some m.cls := findClass_of_methodNamed B.named
  have hlocks := B.notSynchronized
  subst hsz
  have hD := hD0.self (sz := s.heap.size)
  generalize hAe : va_A [] s.heap.size = A at hD hG ⊢
  have hA : ∀ q : Nat, s.heap.size ≤ q → A q := fun q h => by rw [← hAe]; exact Or.inr h
  have hS : va_S A s.heap s.heap [] := va_S.rf
  have hl := lv_entry ([.int p1, .int p2, .int 9]) (n := 3) (Nat.le_of_ble_eq_true rfl)
  rw [lg_entry_eq]
  generalize (lg_sl ([.int p1, .int p2, .int 9]) ++ List.replicate (3 - (lg_sl ([.int p1, .int p2, .int 9])).length) Slot.unset).toArray = ls at hl ⊢
  have hl : lv_has ls 3 [(0, .int p1), (1, .int p2), (2, .int 9)] := hl
  refine lv_iload_n hx hb dX11_needBoth_0 rfl (lv_at hl 0 rfl) ?_
  refine lv_iload_n hx hb dX11_needBoth_1 rfl (lv_at hl 2 rfl) ?_
  refine lv_ineg hx hb dX11_needBoth_2 ?_
  refine lv_topi (fun f_1 ef_1 => ?_)
  obtain rfl : f_1 = (-9) := ef_1.trans (by decide)
  refine lv_iload_n hx hb dX11_needBoth_3 rfl (lv_at hl 2 rfl) ?_
  have hPc := hP.sub (ws' := []) [] rfl
  have hDc := hD.sub (ws' := []) [] (by decide) rfl
  have hFc := va_free (wc := []) hD hS hA [] rfl
  refine vx_callv (vx_runS (As := [.int p1, .int (-9), .int 9]) (rest := []) ⟨hx, hb, hml, hown, hts⟩ (cX11_needRange l hst dC dI T H.size p1 (-9) 9) (cwS 3 hts gX11_needBoth_X11_needRange rfl rfl rfl (by decide +kernel) ⟨Nat.le_of_ble_eq_true rfl, Nat.le_of_ble_eq_true rfl⟩) ⟨xBlind, xCall hK hG hS hPc hDc hFc⟩ rfl rfl hl.1 rfl (lv_room (Nat.le_of_ble_eq_true rfl)) dX11_needBoth_4 ⟨Nat.le_of_ble_eq_true rfl, Nat.le_of_ble_eq_true rfl⟩) hS (fun q _ h => hFc q h) hFc (fun q _ h => hFc q h) (fun E ce q9 u t H1 locs ht hvm hw hB hz1 hk1 hS hce hcv hcl => ?_) (fun u t H1 locs ht hvm hw hB hz1 hk1 hS => ?_)
  · rcases hB with ⟨c_2, hE, hP1, hD1⟩
    subst hE
    rw [ht] at hP1
    obtain ⟨hP, hD⟩ := va_join (wr := []) (w1 := []) hP hD [] [] rfl rfl (by decide) (by decide) hk1 hFc hP1 hD1
    generalize H1 = H at hP hS ⊢
    have hP : va_P (dC, dI) vwCl [] H := hP
    have hD : va_D A [] := hD
    clear hPc hDc hFc hP1 hD1 hk1 hz1 ht hvm
    exact vx_out (fun x hx => absurd (hex x hx) id) hlocks hce hcv hcl (fun t ht _ => ⟨(), trivial, ⟨(Or.inl c_2), rfl, by rw [ht]; exact hP, hD⟩, hS.F ht⟩) hS.2.2 (Nat.le_of_ble_eq_true rfl) (Nat.le_of_ble_eq_true rfl)
  · rcases hB with ⟨c_3, hP1, hD1⟩
    rw [ht] at hP1
    obtain ⟨hP, hD⟩ := va_join (wr := []) (w1 := []) hP hD [] [] rfl rfl (by decide) (by decide) hk1 hFc hP1 hD1
    generalize H1 = H at hP hS ⊢
    have hP : va_P (dC, dI) vwCl [] H := hP
    have hD : va_D A [] := hD
    clear hPc hDc hFc hP1 hD1 hk1 hz1 ht hvm
    refine lv_iload_n hx hb dX11_needBoth_7 rfl (lv_at hl 1 rfl) ?_
    refine lv_iload_n hx hb dX11_needBoth_8 rfl (lv_at hl 2 rfl) ?_
    refine lv_ineg hx hb dX11_needBoth_9 ?_
    refine lv_topi (fun f_4 ef_4 => ?_)
    obtain rfl : f_4 = (-9) := ef_4.trans (by decide)
    refine lv_iload_n hx hb dX11_needBoth_10 rfl (lv_at hl 2 rfl) ?_
    have hPc := hP.sub (ws' := []) [] rfl
    have hDc := hD.sub (ws' := []) [] (by decide) rfl
    have hFc := va_free (wc := []) hD hS hA [] rfl
    refine vx_callv (vx_runS (As := [.int p2, .int (-9), .int 9]) (rest := []) ⟨hx, hb, hml, hown, hts⟩ (cX11_needRange l hst dC dI T H.size p2 (-9) 9) (cwS 3 hts gX11_needBoth_X11_needRange rfl rfl rfl (by decide +kernel) ⟨Nat.le_of_ble_eq_true rfl, Nat.le_of_ble_eq_true rfl⟩) ⟨xBlind, xCall hK hG hS hPc hDc hFc⟩ rfl rfl hl.1 rfl (lv_room (Nat.le_of_ble_eq_true rfl)) dX11_needBoth_11 ⟨Nat.le_of_ble_eq_true rfl, Nat.le_of_ble_eq_true rfl⟩) hS (fun q _ h => hFc q h) hFc (fun q _ h => hFc q h) (fun E ce q9 u t H1 locs ht hvm hw hB hz1 hk1 hS hce hcv hcl => ?_) (fun u t H1 locs ht hvm hw hB hz1 hk1 hS => ?_)
    · rcases hB with ⟨c_5, hE, hP1, hD1⟩
      subst hE
      rw [ht] at hP1
      obtain ⟨hP, hD⟩ := va_join (wr := []) (w1 := []) hP hD [] [] rfl rfl (by decide) (by decide) hk1 hFc hP1 hD1
      generalize H1 = H at hP hS ⊢
      have hP : va_P (dC, dI) vwCl [] H := hP
      have hD : va_D A [] := hD
      clear hPc hDc hFc hP1 hD1 hk1 hz1 ht hvm
      exact vx_out (fun x hx => absurd (hex x hx) id) hlocks hce hcv hcl (fun t ht _ => ⟨(), trivial, ⟨((Or.inr (⟨c_3, c_5⟩))), rfl, by rw [ht]; exact hP, hD⟩, hS.F ht⟩) hS.2.2 (Nat.le_of_ble_eq_true rfl) (Nat.le_of_ble_eq_true rfl)
    · rcases hB with ⟨c_6, hP1, hD1⟩
      rw [ht] at hP1
      obtain ⟨hP, hD⟩ := va_join (wr := []) (w1 := []) hP hD [] [] rfl rfl (by decide) (by decide) hk1 hFc hP1 hD1
      generalize H1 = H at hP hS ⊢
      have hP : va_P (dC, dI) vwCl [] H := hP
      have hD : va_D A [] := hD
      clear hPc hDc hFc hP1 hD1 hk1 hz1 ht hvm
      refine vx_ret ?_
      have hP9 := hP.sub (ws' := []) [] rfl
      have hD9 := hD.sub (ws' := []) [] (by decide) rfl
      exact W.vret hx hb hr (fun t ht hW => ⟨⟨(), rfl, trivial, ⟨⟨c_3, c_6⟩, by rw [ht]; exact hP9, hD9⟩⟩, hS.F ht⟩) hS.2.2 dX11_needBoth_14
set_option maxHeartbeats 4000000 in
set_option maxRecDepth 100000 in
theorem cX11_needPoint (l : Launch) (hst : l.stackTraces = false) (dC : Nat → ClassId) (dI : Nat → Nat → Nat) (T : Nat → ClassId) (x : Nat) (h : Nat) (t : Nat) (gr : Nat) (hu : Nat) (sh : Nat) (wa : Nat) (co : Nat) (cl : Nat) (ce : Nat) (g : Nat) (gx : Nat) (gy : Nat) (gw : Nat) (gu : Nat) (gv : Nat) (sz : Nat) (p1 : Int32) : vx_Met l yX11_needPoint wsX11_needPoint ({ frames := 6, cells := 1, slots := 6, locals := 82 } : Room) (va_Pc [.ref x, .int p1] (fun U => xB dC dI T [(x, .inr (16, [.ref g, .ref h, .ref t, .ref gr, .ref hu, .ref sh, .ref wa, .ref co, .ref cl, .ref ce])), (g, .inr (10, [.ref gx, .ref gy, .ref gw, .ref gu, .ref gv, .int 0, .int 0]))] sz U)) (va_Qv (fun _ : Unit => True) (fun (_ : Unit) (t : State) => False) (va_A [(x, .inr (16, [.ref g, .ref h, .ref t, .ref gr, .ref hu, .ref sh, .ref wa, .ref co, .ref cl, .ref ce])), (g, .inr (10, [.ref gx, .ref gy, .ref gw, .ref gu, .ref gv, .int 0, .int 0]))] sz)) (vx_X (fun _ : Unit => True) (fun (E : String) (_ : Unit) (t : State) => E = "java/lang/IndexOutOfBoundsException" ∧ xE dC dI [(x, .inr (16, [.ref g, .ref h, .ref t, .ref gr, .ref hu, .ref sh, .ref wa, .ref co, .ref cl, .ref ce])), (g, .inr (10, [.ref gx, .ref gy, .ref gw, .ref gu, .ref gv, .int 0, .int 0]))] (va_A [(x, .inr (16, [.ref g, .ref h, .ref t, .ref gr, .ref hu, .ref sh, .ref wa, .ref co, .ref cl, .ref ce])), (g, .inr (10, [.ref gx, .ref gy, .ref gw, .ref gu, .ref gv, .int 0, .int 0]))] sz) t) (va_A [(x, .inr (16, [.ref g, .ref h, .ref t, .ref gr, .ref hu, .ref sh, .ref wa, .ref co, .ref cl, .ref ce])), (g, .inr (10, [.ref gx, .ref gy, .ref gw, .ref gu, .ref gv, .int 0, .int 0]))] sz)) 1 6 (va_A [(x, .inr (16, [.ref g, .ref h, .ref t, .ref gr, .ref hu, .ref sh, .ref wa, .ref co, .ref cl, .ref ce])), (g, .inr (10, [.ref gx, .ref gy, .ref gw, .ref gu, .ref gv, .int 0, .int 0]))] sz) := by
  refine vx_ofW (cc := cX11_needPoint) (maxL := 2) (ret := none) (by decide +kernel) rfl ?_
  intro p e s m args below meth c s₁ B hml hex hv
  obtain ⟨rfl, hsz, hP, hK, hD0, hG⟩ := hv
  have hx := B.exec
  have hb := B.bytes
  have hr := B.returns
  have hts := atoms_spec (ws := wsX11_needPoint) B.pre
  have hown : s.vm.findClass RX11 = some m.cls := findClass_of_methodNamed B.named
  have hlocks := B.notSynchronized
  have hin_X11 : ∀ w ∈ wsX110, w ∈ wsX11_needPoint := by decide +kernel
  have hm_384 : ∀ w ∈ (vx_atS RX11 384 "java/lang/IndexOutOfBoundsException" ["java/lang/RuntimeException", "java/lang/Exception"]).filter goodWord, w ∈ wsX11_needPoint := by decide +kernel
  have hat_384 : ∀ w ∈ vx_atS RX11 384 "java/lang/IndexOutOfBoundsException" ["java/lang/RuntimeException", "java/lang/Exception"], w.before args s = true := vx_hat (B := [.castable "java/lang/IndexOutOfBoundsException" "java/lang/IndexOutOfBoundsException"]) (fun w hw => hts w (hm_384 w hw)) (by decide +kernel) (vx_c (va_Nw.use rfl (hG.2.2.2.1 _ (by decide +kernel))) vx_n)
  subst hsz
  have hD := hD0.self (sz := s.heap.size)
  generalize hAe : va_A [(x, .inr (16, [.ref g, .ref h, .ref t, .ref gr, .ref hu, .ref sh, .ref wa, .ref co, .ref cl, .ref ce])), (g, .inr (10, [.ref gx, .ref gy, .ref gw, .ref gu, .ref gv, .int 0, .int 0]))] s.heap.size = A at hD hG ⊢
  have hA : ∀ q : Nat, s.heap.size ≤ q → A q := fun q h => by rw [← hAe]; exact Or.inr h
  have hS : va_S A s.heap s.heap [] := va_S.rf
  have hl := lv_entry ([.ref x, .int p1]) (n := 2) (Nat.le_of_ble_eq_true rfl)
  rw [lg_entry_eq]
  generalize (lg_sl ([.ref x, .int p1]) ++ List.replicate (2 - (lg_sl ([.ref x, .int p1])).length) Slot.unset).toArray = ls at hl ⊢
  have hl : lv_has ls 2 [(0, .ref x), (1, .int p1)] := hl
  refine lv_aload_n hx hb dX11_needPoint_0 rfl (lv_at hl 0 rfl) ?_
  refine va_get (D := (dC, dI)) (ci := 16) (v := .ref g) (C := RX11) (T := TX11) (N := 10) hx hb hts hin_X11 hown hK hP 0 rfl rfl 0 (by decide) (hts (.fieldLink RX11 12 "Nearestward" "ground" "LNearestward$Ground;") (by decide +kernel)) (fun _ h9 => h9) rfl dX11_needPoint_1 ?_
  refine lv_iload_n hx hb dX11_needPoint_4 rfl (lv_at hl 1 rfl) ?_
  have hPc := hP.sub (ws' := [(g, .inr (10, [.ref gx, .ref gy, .ref gw, .ref gu, .ref gv, .int 0, .int 0]))]) [1] rfl
  have hDc := hD.sub (ws' := [(g, .inr (10, [.ref gx, .ref gy, .ref gw, .ref gu, .ref gv, .int 0, .int 0]))]) [1] (by decide) rfl
  have hFc := va_free (wc := [(g, .inr (10, [.ref gx, .ref gy, .ref gw, .ref gu, .ref gv, .int 0, .int 0]))]) hD hS hA [1] rfl
  refine va_calli (va_runV (As := [.int p1]) (rest := []) ⟨hx, hb, hml, hown, hts⟩ (cX5_has l hst dC dI T g gx gy gw gu gv H.size p1) (cwV 1 hts gX11_needPoint_X5_has rfl rfl rfl (by decide +kernel) ⟨Nat.le_of_ble_eq_true rfl, Nat.le_of_ble_eq_true rfl⟩) ⟨xBlind, va_recv hK hPc (ci := 10) (q0 := 0) rfl rfl, xCall hK hG hS hPc hDc hFc⟩ rfl rfl hl.1 rfl (lv_room (Nat.le_of_ble_eq_true rfl)) dX11_needPoint_5 ⟨Nat.le_of_ble_eq_true rfl, Nat.le_of_ble_eq_true rfl⟩) hS (fun q _ h => hFc q h) hFc (fun r_9 u t H1 locs ht hvm hw hB hz1 hk1 hS => ?_)
  subst hw
  rcases hB with ⟨hr_9, hP1, hD1⟩
  rw [ht] at hP1
  subst hr_9
  obtain ⟨hP, hD⟩ := va_join (wr := [(x, .inr (16, [.ref g, .ref h, .ref t, .ref gr, .ref hu, .ref sh, .ref wa, .ref co, .ref cl, .ref ce]))]) (w1 := [(g, .inr (10, [.ref gx, .ref gy, .ref gw, .ref gu, .ref gv, .int 0, .int 0]))]) hP hD [1] [0] rfl rfl (by decide) (by decide) hk1 hFc hP1 hD1
  generalize H1 = H at hP hS ⊢
  have hP : va_P (dC, dI) vwCl [(x, .inr (16, [.ref g, .ref h, .ref t, .ref gr, .ref hu, .ref sh, .ref wa, .ref co, .ref cl, .ref ce])), (g, .inr (10, [.ref gx, .ref gy, .ref gw, .ref gu, .ref gv, .int 0, .int 0]))] H := hP
  have hD : va_D A [(x, .inr (16, [.ref g, .ref h, .ref t, .ref gr, .ref hu, .ref sh, .ref wa, .ref co, .ref cl, .ref ce])), (g, .inr (10, [.ref gx, .ref gy, .ref gw, .ref gu, .ref gv, .int 0, .int 0]))] := hD
  clear hPc hDc hFc hP1 hD1 hk1 hz1 ht hvm
  refine lv_if_ne (tgt := 22) hx hb dX11_needPoint_8 (by decide) (fun c_2 => absurd c_2 (by decide)) (fun c_2 => ?_)
  obtain ⟨sa, hsa⟩ := hG.2.2.2.2 (RX11, 382, "there is no such point") (by decide +kernel)
  have hP9 := hP.sub (ws' := [(x, .inr (16, [.ref g, .ref h, .ref t, .ref gr, .ref hu, .ref sh, .ref wa, .ref co, .ref cl, .ref ce])), (g, .inr (10, [.ref gx, .ref gy, .ref gw, .ref gu, .ref gv, .int 0, .int 0]))]) [0, 1] rfl
  have hD9 := hD.sub (ws' := [(x, .inr (16, [.ref g, .ref h, .ref t, .ref gr, .ref hu, .ref sh, .ref wa, .ref co, .ref cl, .ref ce])), (g, .inr (10, [.ref gx, .ref gy, .ref gw, .ref gu, .ref gv, .int 0, .int 0]))]) [0, 1] (by decide) rfl
  exact vx_throwSW (cls := "java/lang/IndexOutOfBoundsException") (names := ["java/lang/RuntimeException", "java/lang/Exception"]) (text := "there is no such point") (ic := 384) hx hb hst hown (by decide +kernel) (by decide +kernel) (hts (.classLink RX11 380 "java/lang/IndexOutOfBoundsException") (by decide +kernel)) (hts (.initialized "java/lang/IndexOutOfBoundsException") (by decide +kernel)) hsa hat_384 (by decide +kernel) hG.1 hG.2.1 hS (by rw [hml]; exact hl.1) dX11_needPoint_11 dX11_needPoint_14 dX11_needPoint_15 dX11_needPoint_18 dX11_needPoint_21 (fun x hx => absurd (hex x hx) id) (Nat.le_of_ble_eq_true rfl) (Nat.le_of_ble_eq_true rfl) (Nat.le_of_ble_eq_true rfl) (Nat.le_of_ble_eq_true rfl) hlocks (fun t hvm hz1 hk1 => ⟨(), trivial, ⟨rfl, hP9.kept (fun k x hx => hk1 x.1 ((hP9 k x hx).lt)), hD9⟩, xthrF hS hz1 hk1⟩) hS.2.2 (Nat.le_of_ble_eq_true rfl) (Nat.le_of_ble_eq_true rfl)
set_option maxHeartbeats 4000000 in
set_option maxRecDepth 100000 in
theorem cX11_remove (l : Launch) (hst : l.stackTraces = false) (dC : Nat → ClassId) (dI : Nat → Nat → Nat) (T : Nat → ClassId) (x : Nat) (h : Nat) (t : Nat) (gr : Nat) (hu : Nat) (sh : Nat) (wa : Nat) (co : Nat) (cl : Nat) (ce : Nat) (g : Nat) (gx : Nat) (gy : Nat) (gw : Nat) (gu : Nat) (gv : Nat) (sz : Nat) (p1 : Int32) : vx_Met l yX11_remove wsX11_remove ({ frames := 7, cells := 1, slots := 6, locals := 103 } : Room) (va_Pc [.ref x, .int p1] (fun U => xB dC dI T [(x, .inr (16, [.ref g, .ref h, .ref t, .ref gr, .ref hu, .ref sh, .ref wa, .ref co, .ref cl, .ref ce])), (g, .inr (10, [.ref gx, .ref gy, .ref gw, .ref gu, .ref gv, .int 0, .int 0]))] sz U)) (va_Qi (fun (r u : Int32) => r = u) (fun (u : Int32) (t : State) => False) (va_A [(x, .inr (16, [.ref g, .ref h, .ref t, .ref gr, .ref hu, .ref sh, .ref wa, .ref co, .ref cl, .ref ce])), (g, .inr (10, [.ref gx, .ref gy, .ref gw, .ref gu, .ref gv, .int 0, .int 0]))] sz)) (vx_X (fun _ : Unit => True) (fun (E : String) (_ : Unit) (t : State) => E = "java/lang/IndexOutOfBoundsException" ∧ xE dC dI [(x, .inr (16, [.ref g, .ref h, .ref t, .ref gr, .ref hu, .ref sh, .ref wa, .ref co, .ref cl, .ref ce])), (g, .inr (10, [.ref gx, .ref gy, .ref gw, .ref gu, .ref gv, .int 0, .int 0]))] (va_A [(x, .inr (16, [.ref g, .ref h, .ref t, .ref gr, .ref hu, .ref sh, .ref wa, .ref co, .ref cl, .ref ce])), (g, .inr (10, [.ref gx, .ref gy, .ref gw, .ref gu, .ref gv, .int 0, .int 0]))] sz) t) (va_A [(x, .inr (16, [.ref g, .ref h, .ref t, .ref gr, .ref hu, .ref sh, .ref wa, .ref co, .ref cl, .ref ce])), (g, .inr (10, [.ref gx, .ref gy, .ref gw, .ref gu, .ref gv, .int 0, .int 0]))] sz)) 1 6 (va_A [(x, .inr (16, [.ref g, .ref h, .ref t, .ref gr, .ref hu, .ref sh, .ref wa, .ref co, .ref cl, .ref ce])), (g, .inr (10, [.ref gx, .ref gy, .ref gw, .ref gu, .ref gv, .int 0, .int 0]))] sz) := by
  refine vx_ofW (cc := cX11_remove) (maxL := 2) (ret := (some .int)) (by decide +kernel) rfl ?_
  intro p e s m args below meth c s₁ B hml hex hv
  obtain ⟨rfl, hsz, hP, hK, hD0, hG⟩ := hv
  have hx := B.exec
  have hb := B.bytes
  have hr := B.returns
  have hts := atoms_spec (ws := wsX11_remove) B.pre
  have hown : s.vm.findClass RX11 = some m.cls := findClass_of_methodNamed B.named
  have hlocks := B.notSynchronized
  subst hsz
  have hD := hD0.self (sz := s.heap.size)
  generalize hAe : va_A [(x, .inr (16, [.ref g, .ref h, .ref t, .ref gr, .ref hu, .ref sh, .ref wa, .ref co, .ref cl, .ref ce])), (g, .inr (10, [.ref gx, .ref gy, .ref gw, .ref gu, .ref gv, .int 0, .int 0]))] s.heap.size = A at hD hG ⊢
  have hA : ∀ q : Nat, s.heap.size ≤ q → A q := fun q h => by rw [← hAe]; exact Or.inr h
  have hS : va_S A s.heap s.heap [] := va_S.rf
  have hl := lv_entry ([.ref x, .int p1]) (n := 2) (Nat.le_of_ble_eq_true rfl)
  rw [lg_entry_eq]
  generalize (lg_sl ([.ref x, .int p1]) ++ List.replicate (2 - (lg_sl ([.ref x, .int p1])).length) Slot.unset).toArray = ls at hl ⊢
  have hl : lv_has ls 2 [(0, .ref x), (1, .int p1)] := hl
  refine lv_aload_n hx hb dX11_remove_0 rfl (lv_at hl 0 rfl) ?_
  refine lv_iload_n hx hb dX11_remove_1 rfl (lv_at hl 1 rfl) ?_
  have hPc := hP.sub (ws' := [(x, .inr (16, [.ref g, .ref h, .ref t, .ref gr, .ref hu, .ref sh, .ref wa, .ref co, .ref cl, .ref ce])), (g, .inr (10, [.ref gx, .ref gy, .ref gw, .ref gu, .ref gv, .int 0, .int 0]))]) [0, 1] rfl
  have hDc := hD.sub (ws' := [(x, .inr (16, [.ref g, .ref h, .ref t, .ref gr, .ref hu, .ref sh, .ref wa, .ref co, .ref cl, .ref ce])), (g, .inr (10, [.ref gx, .ref gy, .ref gw, .ref gu, .ref gv, .int 0, .int 0]))]) [0, 1] (by decide) rfl
  have hFc := va_free (wc := [(x, .inr (16, [.ref g, .ref h, .ref t, .ref gr, .ref hu, .ref sh, .ref wa, .ref co, .ref cl, .ref ce])), (g, .inr (10, [.ref gx, .ref gy, .ref gw, .ref gu, .ref gv, .int 0, .int 0]))]) hD hS hA [0, 1] rfl
  refine vx_callv (vx_runV (As := [.int p1]) (rest := []) ⟨hx, hb, hml, hown, hts⟩ (cX11_needPoint l hst dC dI T x h t gr hu sh wa co cl ce g gx gy gw gu gv H.size p1) (cwV 1 hts gX11_remove_X11_needPoint rfl rfl rfl (by decide +kernel) ⟨Nat.le_of_ble_eq_true rfl, Nat.le_of_ble_eq_true rfl⟩) ⟨xBlind, va_recv hK hPc (ci := 16) (q0 := 0) rfl rfl, xCall hK hG hS hPc hDc hFc⟩ rfl rfl hl.1 rfl (lv_room (Nat.le_of_ble_eq_true rfl)) dX11_remove_2 ⟨Nat.le_of_ble_eq_true rfl, Nat.le_of_ble_eq_true rfl⟩) hS (fun q _ h => hFc q h) hFc (fun q _ h => hFc q h) (fun E ce q9 u t H1 locs ht hvm hw hB hz1 hk1 hS hce hcv hcl => ?_) (fun u t H1 locs ht hvm hw hB hz1 hk1 hS => ?_)
  · rcases hB with ⟨hE, hP1, hD1⟩
    subst hE
    rw [ht] at hP1
    obtain ⟨hP, hD⟩ := va_join (wr := []) (w1 := [(x, .inr (16, [.ref g, .ref h, .ref t, .ref gr, .ref hu, .ref sh, .ref wa, .ref co, .ref cl, .ref ce])), (g, .inr (10, [.ref gx, .ref gy, .ref gw, .ref gu, .ref gv, .int 0, .int 0]))]) hP hD [0, 1] [] rfl rfl (by decide) (by decide) hk1 hFc hP1 hD1
    generalize H1 = H at hP hS ⊢
    have hP : va_P (dC, dI) vwCl [(x, .inr (16, [.ref g, .ref h, .ref t, .ref gr, .ref hu, .ref sh, .ref wa, .ref co, .ref cl, .ref ce])), (g, .inr (10, [.ref gx, .ref gy, .ref gw, .ref gu, .ref gv, .int 0, .int 0]))] H := hP
    have hD : va_D A [(x, .inr (16, [.ref g, .ref h, .ref t, .ref gr, .ref hu, .ref sh, .ref wa, .ref co, .ref cl, .ref ce])), (g, .inr (10, [.ref gx, .ref gy, .ref gw, .ref gu, .ref gv, .int 0, .int 0]))] := hD
    clear hPc hDc hFc hP1 hD1 hk1 hz1 ht hvm
    exact vx_out (fun x hx => absurd (hex x hx) id) hlocks hce hcv hcl (fun t ht _ => ⟨(), trivial, ⟨rfl, by rw [ht]; exact hP, hD⟩, hS.F ht⟩) hS.2.2 (Nat.le_of_ble_eq_true rfl) (Nat.le_of_ble_eq_true rfl)
  · exact absurd hB id
