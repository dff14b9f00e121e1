set_option maxHeartbeats 4000000 in
set_option maxRecDepth 100000 in
theorem xcX11_needRange (l : Launch) (hst : l.stackTraces = false) (dC : Nat → ClassId) (dI : Nat → Nat → Nat) (T : Nat → ClassId) (sz : Nat) (p0 : Int32) : vx_Met l yX11_needRange wsX11_needRange ({ frames := 6, cells := 1, slots := 6, locals := 82 } : Room) (va_Pc [.int p0, .int (-100), .int 100] (fun U => xB dC dI T [] sz U)) (va_Qv (fun _ : Unit => True) (fun (_ : Unit) (t : State) => ((¬ (p0.toInt < -100)) ∧ (p0.toInt ≤ 100)) ∧ xE dC dI [] (va_A [] sz) t) (va_A [] sz)) (vx_X (fun _ : Unit => True) (fun (E : String) (_ : Unit) (t : State) => ((p0.toInt < -100) ∨ ((¬ (p0.toInt < -100)) ∧ (¬ (p0.toInt ≤ 100)))) ∧ E = "java/lang/IllegalArgumentException" ∧ xE dC dI [] (va_A [] sz) t) (va_A [] sz)) 1 6 (va_A [] sz) := by
  refine vx_ofW (cc := cX11_needRange) (maxL := 3) (ret := none) (by decide +kernel) rfl ?_
  intro p e s m args below meth c s₁ B hml hex hv
  obtain ⟨rfl, hsz, hP, hK, hD0, hG⟩ := hv
  have hx := B.exec
  have hb := B.bytes
  have hr := B.returns
  have hts := atoms_spec (ws := wsX11_needRange) B.pre
  have hown : s.vm.findClass RX11 = some m.cls := findClass_of_methodNamed B.named
  have hlocks := B.notSynchronized
  have hm_214 : ∀ w ∈ (vx_atS RX11 214 "java/lang/IllegalArgumentException" ["java/lang/RuntimeException", "java/lang/Exception"]).filter goodWord, w ∈ wsX11_needRange := by decide +kernel
  have hat_214 : ∀ w ∈ vx_atS RX11 214 "java/lang/IllegalArgumentException" ["java/lang/RuntimeException", "java/lang/Exception"], w.before (#[.int p0, .int (-100), .int 100] : Array Value) s = true := vx_hat (B := xBad) (fun w hw => hts w (hm_214 w hw)) (by decide +kernel) (xBad_use hG.2.2.2.1)
  subst hsz
  have hD := hD0.self (sz := s.heap.size)
  generalize hAe : va_A [] s.heap.size = A at hD hG ⊢
  have hA : ∀ q : Nat, s.heap.size ≤ q → A q := fun q h => by rw [← hAe]; exact Or.inr h
  have hS : va_S A s.heap s.heap [] := va_S.rf
  have hl := lv_entry ([.int p0, .int (-100), .int 100]) (n := 3) (Nat.le_of_ble_eq_true rfl)
  rw [lg_entry_eq]
  generalize (lg_sl ([.int p0, .int (-100), .int 100]) ++ List.replicate (3 - (lg_sl ([.int p0, .int (-100), .int 100])).length) Slot.unset).toArray = ls at hl ⊢
  have hl : lv_has ls 3 [(0, .int p0), (1, .int (-100)), (2, .int 100)] := hl
  refine lv_iload_n hx hb dX11_needRange_0 rfl (lv_at hl 0 rfl) ?_
  refine lv_iload_n hx hb dX11_needRange_1 rfl (lv_at hl 1 rfl) ?_
  refine lv_icmp_lt (tgt := 10) hx hb dX11_needRange_2 (by decide) (fun c_1 => ?_) (fun c_1 => ?_)
  · have nc_1 : p0.toInt < -100 := (xi_lt rfl (by decide +kernel)).mp c_1
    obtain ⟨sa, hsa⟩ := hG.2.2.2.2.1 (RX11, 385, "a number is out of range") (by decide +kernel)
    have hP9 := hP.sub (ws' := []) [] rfl
    have hD9 := hD.sub (ws' := []) [] (by decide) rfl
    exact vx_throwSW (cls := "java/lang/IllegalArgumentException") (names := ["java/lang/RuntimeException", "java/lang/Exception"]) (text := "a number is out of range") (ic := 214) hx hb hst hown (by decide +kernel) (by decide +kernel) (hts (.classLink RX11 210 "java/lang/IllegalArgumentException") (by decide +kernel)) (hts (.initialized "java/lang/IllegalArgumentException") (by decide +kernel)) hsa hat_214 (by decide +kernel) hG.1 hG.2.1 hS (by rw [hml]; exact hl.1) dX11_needRange_10 dX11_needRange_13 dX11_needRange_14 dX11_needRange_17 dX11_needRange_20 (fun x hx => absurd (hex x hx) id) (Nat.le_of_ble_eq_true rfl) (Nat.le_of_ble_eq_true rfl) (Nat.le_of_ble_eq_true rfl) (Nat.le_of_ble_eq_true rfl) hlocks (fun t hvm hz1 hk1 => ⟨(), trivial, ⟨(Or.inl nc_1), rfl, hP9.kept (fun k x hx => hk1 x.1 ((hP9 k x hx).lt)), hD9⟩, xthrF hS hz1 hk1⟩) hS.2.2 (Nat.le_of_ble_eq_true rfl) (Nat.le_of_ble_eq_true rfl)
  · have nc_1 : ¬ (p0.toInt < -100) := mt (xi_lt rfl (by decide +kernel)).mpr c_1
    refine lv_iload_n hx hb dX11_needRange_5 rfl (lv_at hl 0 rfl) ?_
    refine lv_iload_n hx hb dX11_needRange_6 rfl (lv_at hl 2 rfl) ?_
    refine lv_icmp_le (tgt := 21) hx hb dX11_needRange_7 (by decide) (fun c_2 => ?_) (fun c_2 => ?_)
    · have nc_2 : p0.toInt ≤ 100 := (xi_le rfl (by decide +kernel)).mp c_2
      refine vx_ret ?_
      have hP9 := hP.sub (ws' := []) [] rfl
      have hD9 := hD.sub (ws' := []) [] (by decide) rfl
      refine W.widen (k := 1) (n := 6) (Nat.le_of_ble_eq_true rfl) (Nat.le_of_ble_eq_true rfl) ?_
      exact W.vret hx hb hr (fun t ht hW => ⟨⟨(), rfl, trivial, ⟨⟨nc_1, nc_2⟩, by rw [ht]; exact hP9, hD9⟩⟩, hS.F ht⟩) hS.2.2 dX11_needRange_21
    · have nc_2 : ¬ (p0.toInt ≤ 100) := mt (xi_le rfl (by decide +kernel)).mpr c_2
      obtain ⟨sa, hsa⟩ := hG.2.2.2.2.1 (RX11, 385, "a number is out of range") (by decide +kernel)
      have hP9 := hP.sub (ws' := []) [] rfl
      have hD9 := hD.sub (ws' := []) [] (by decide) rfl
      exact vx_throwSW (cls := "java/lang/IllegalArgumentException") (names := ["java/lang/RuntimeException", "java/lang/Exception"]) (text := "a number is out of range") (ic := 214) hx hb hst hown (by decide +kernel) (by decide +kernel) (hts (.classLink RX11 210 "java/lang/IllegalArgumentException") (by decide +kernel)) (hts (.initialized "java/lang/IllegalArgumentException") (by decide +kernel)) hsa hat_214 (by decide +kernel) hG.1 hG.2.1 hS (by rw [hml]; exact hl.1) dX11_needRange_10 dX11_needRange_13 dX11_needRange_14 dX11_needRange_17 dX11_needRange_20 (fun x hx => absurd (hex x hx) id) (Nat.le_of_ble_eq_true rfl) (Nat.le_of_ble_eq_true rfl) (Nat.le_of_ble_eq_true rfl) (Nat.le_of_ble_eq_true rfl) hlocks (fun t hvm hz1 hk1 => ⟨(), trivial, ⟨(Or.inr (⟨nc_1, nc_2⟩)), rfl, hP9.kept (fun k x hx => hk1 x.1 ((hP9 k x hx).lt)), hD9⟩, xthrF hS hz1 hk1⟩) hS.2.2 (Nat.le_of_ble_eq_true rfl) (Nat.le_of_ble_eq_true rfl)
set_option maxHeartbeats 4000000 in
set_option maxRecDepth 100000 in
theorem xcX11_needBoth (l : Launch) (hst : l.stackTraces = false) (dC : Nat → ClassId) (dI : Nat → Nat → Nat) (T : Nat → ClassId) (sz : Nat) (p0 : Int32) (p1 : Int32) : vx_Met l yX11_needBoth wsX11_needBoth ({ frames := 7, cells := 2, slots := 12, locals := 104 } : Room) (va_Pc [.int p0, .int p1, .int 100] (fun U => xB dC dI T [] sz U)) (va_Qv (fun _ : Unit => True) (fun (_ : Unit) (t : State) => (((¬ (p0.toInt < -100)) ∧ (p0.toInt ≤ 100)) ∧ ((¬ (p1.toInt < -100)) ∧ (p1.toInt ≤ 100))) ∧ xE dC dI [] (va_A [] sz) t) (va_A [] sz)) (vx_X (fun _ : Unit => True) (fun (E : String) (_ : Unit) (t : State) => (((p0.toInt < -100) ∨ ((¬ (p0.toInt < -100)) ∧ (¬ (p0.toInt ≤ 100)))) ∨ (((¬ (p0.toInt < -100)) ∧ (p0.toInt ≤ 100)) ∧ ((p1.toInt < -100) ∨ ((¬ (p1.toInt < -100)) ∧ (¬ (p1.toInt ≤ 100)))))) ∧ E = "java/lang/IllegalArgumentException" ∧ xE dC dI [] (va_A [] sz) t) (va_A [] sz)) 2 12 (va_A [] sz) := by
  refine vx_ofW (cc := cX11_needBoth) (maxL := 3) (ret := none) (by decide +kernel) rfl ?_
  intro p e s m args below meth c s₁ B hml hex hv
  obtain ⟨rfl, hsz, hP, hK, hD0, hG⟩ := hv
  have hx := B.exec
  have hb := B.bytes
  have hr := B.returns
  have hts := atoms_spec (ws := wsX11_needBoth) B.pre
  have hown : s.vm.findClass RX11 = some m.cls := findClass_of_methodNamed B.named
  have hlocks := B.notSynchronized
  subst hsz
  have hD := hD0.self (sz := s.heap.size)
  generalize hAe : va_A [] s.heap.size = A at hD hG ⊢
  have hA : ∀ q : Nat, s.heap.size ≤ q → A q := fun q h => by rw [← hAe]; exact Or.inr h
  have hS : va_S A s.heap s.heap [] := va_S.rf
  have hl := lv_entry ([.int p0, .int p1, .int 100]) (n := 3) (Nat.le_of_ble_eq_true rfl)
  rw [lg_entry_eq]
  generalize (lg_sl ([.int p0, .int p1, .int 100]) ++ List.replicate (3 - (lg_sl ([.int p0, .int p1, .int 100])).length) Slot.unset).toArray = ls at hl ⊢
  have hl : lv_has ls 3 [(0, .int p0), (1, .int p1), (2, .int 100)] := hl
  refine lv_iload_n hx hb dX11_needBoth_0 rfl (lv_at hl 0 rfl) ?_
  refine lv_iload_n hx hb dX11_needBoth_1 rfl (lv_at hl 2 rfl) ?_
  refine lv_ineg hx hb dX11_needBoth_2 ?_
  refine lv_topi (fun f_1 ef_1 => ?_)
  obtain rfl : f_1 = (-100) := ef_1.trans (by decide)
  refine lv_iload_n hx hb dX11_needBoth_3 rfl (lv_at hl 2 rfl) ?_
  have hPc := hP.sub (ws' := []) [] rfl
  have hDc := hD.sub (ws' := []) [] (by decide) rfl
  have hFc := va_free (wc := []) hD hS hA [] rfl
  refine vx_callv (vx_runS (As := [.int p0, .int (-100), .int 100]) (rest := []) ⟨hx, hb, hml, hown, hts⟩ (xcX11_needRange l hst dC dI T s.heap.size p0) (cwS 3 hts gX11_needBoth_X11_needRange rfl rfl rfl (by decide +kernel) ⟨Nat.le_of_ble_eq_true rfl, Nat.le_of_ble_eq_true rfl⟩) ⟨xBlind, xCall hK hG hS hPc hDc hFc⟩ rfl rfl hl.1 rfl (lv_room (Nat.le_of_ble_eq_true rfl)) dX11_needBoth_4 ⟨Nat.le_of_ble_eq_true rfl, Nat.le_of_ble_eq_true rfl⟩) hS (fun q _ h => hFc q h) hFc (fun q _ h => hFc q h) (fun E ce q9 u t H locs ht hvm hw hB hz1 hk1 hS hce hcv hcl => ?_) (fun u t H locs ht hvm hw hB hz1 hk1 hS => ?_)
  · rcases hB with ⟨c_2, hE, hP1, hD1⟩
    subst hE
    rw [ht] at hP1
    obtain ⟨hP, hD⟩ := va_join (wr := []) (w1 := []) hP hD [] [] rfl rfl (by decide) (by decide) hk1 hFc hP1 hD1
    have hP : va_P (dC, dI) vwCl [] H := hP
    have hD : va_D A [] := hD
    clear hPc hDc hFc hP1 hD1 hk1 hz1 ht hvm
    have hP9 := hP.sub (ws' := []) [] rfl
    have hD9 := hD.sub (ws' := []) [] (by decide) rfl
    exact vx_out (fun x hx => absurd (hex x hx) id) hlocks hce hcv hcl (fun t ht _ => ⟨(), trivial, ⟨(Or.inl c_2), rfl, by rw [ht]; exact hP9, hD9⟩, hS.F ht⟩) hS.2.2 (Nat.le_of_ble_eq_true rfl) (Nat.le_of_ble_eq_true rfl)
  · rcases hB with ⟨c_3, hP1, hD1⟩
    rw [ht] at hP1
    obtain ⟨hP, hD⟩ := va_join (wr := []) (w1 := []) hP hD [] [] rfl rfl (by decide) (by decide) hk1 hFc hP1 hD1
    have hP : va_P (dC, dI) vwCl [] H := hP
    have hD : va_D A [] := hD
    clear hPc hDc hFc hP1 hD1 hk1 hz1 ht hvm
    refine lv_iload_n hx hb dX11_needBoth_7 rfl (lv_at hl 1 rfl) ?_
    refine lv_iload_n hx hb dX11_needBoth_8 rfl (lv_at hl 2 rfl) ?_
    refine lv_ineg hx hb dX11_needBoth_9 ?_
    refine lv_topi (fun f_4 ef_4 => ?_)
    obtain rfl : f_4 = (-100) := ef_4.trans (by decide)
    refine lv_iload_n hx hb dX11_needBoth_10 rfl (lv_at hl 2 rfl) ?_
    have hPc := hP.sub (ws' := []) [] rfl
    have hDc := hD.sub (ws' := []) [] (by decide) rfl
    have hFc := va_free (wc := []) hD hS hA [] rfl
    refine vx_callv (vx_runS (As := [.int p1, .int (-100), .int 100]) (rest := []) ⟨hx, hb, hml, hown, hts⟩ (xcX11_needRange l hst dC dI T H.size p1) (cwS 3 hts gX11_needBoth_X11_needRange rfl rfl rfl (by decide +kernel) ⟨Nat.le_of_ble_eq_true rfl, Nat.le_of_ble_eq_true rfl⟩) ⟨xBlind, xCall hK hG hS hPc hDc hFc⟩ rfl rfl hl.1 rfl (lv_room (Nat.le_of_ble_eq_true rfl)) dX11_needBoth_11 ⟨Nat.le_of_ble_eq_true rfl, Nat.le_of_ble_eq_true rfl⟩) hS (fun q _ h => hFc q h) hFc (fun q _ h => hFc q h) (fun E ce q9 u t H locs ht hvm hw hB hz1 hk1 hS hce hcv hcl => ?_) (fun u t H locs ht hvm hw hB hz1 hk1 hS => ?_)
    · rcases hB with ⟨c_5, hE, hP1, hD1⟩
      subst hE
      rw [ht] at hP1
      obtain ⟨hP, hD⟩ := va_join (wr := []) (w1 := []) hP hD [] [] rfl rfl (by decide) (by decide) hk1 hFc hP1 hD1
      have hP : va_P (dC, dI) vwCl [] H := hP
      have hD : va_D A [] := hD
      clear hPc hDc hFc hP1 hD1 hk1 hz1 ht hvm
      have hP9 := hP.sub (ws' := []) [] rfl
      have hD9 := hD.sub (ws' := []) [] (by decide) rfl
      exact vx_out (fun x hx => absurd (hex x hx) id) hlocks hce hcv hcl (fun t ht _ => ⟨(), trivial, ⟨(Or.inr (⟨c_3, c_5⟩)), rfl, by rw [ht]; exact hP9, hD9⟩, hS.F ht⟩) hS.2.2 (Nat.le_of_ble_eq_true rfl) (Nat.le_of_ble_eq_true rfl)
    · rcases hB with ⟨c_6, hP1, hD1⟩
      rw [ht] at hP1
      obtain ⟨hP, hD⟩ := va_join (wr := []) (w1 := []) hP hD [] [] rfl rfl (by decide) (by decide) hk1 hFc hP1 hD1
      have hP : va_P (dC, dI) vwCl [] H := hP
      have hD : va_D A [] := hD
      clear hPc hDc hFc hP1 hD1 hk1 hz1 ht hvm
      refine vx_ret ?_
      have hP9 := hP.sub (ws' := []) [] rfl
      have hD9 := hD.sub (ws' := []) [] (by decide) rfl
      exact W.vret hx hb hr (fun t ht hW => ⟨⟨(), rfl, trivial, ⟨⟨c_3, c_6⟩, by rw [ht]; exact hP9, hD9⟩⟩, hS.F ht⟩) hS.2.2 dX11_needBoth_14
set_option maxHeartbeats 4000000 in
set_option maxRecDepth 100000 in
theorem xcX11_isIn (l : Launch) (hst : l.stackTraces = false) (dC : Nat → ClassId) (dI : Nat → Nat → Nat) (T : Nat → ClassId) (sz : Nat) (p1 : Int32) : Met l yX11_isIn wsX11_isIn ({ frames := 0, cells := 0, slots := 0, locals := 0 } : Room) (va_Pc [.int 0, .int p1] (fun U => xB dC dI T [] sz U)) (va_Qi (fun (r u : Int32) => r = u) (fun (u : Int32) (t : State) => 0 = u ∧ xE dC dI [] (va_A [] sz) t) (va_A [] sz)) 0 0 (va_A [] sz) := by
  refine Met.ofW (cc := cX11_isIn) (maxL := 2) (ret := (some .boolean)) (by decide +kernel) rfl ?_
  intro p e s m args below meth c s₁ B hml hv
  obtain ⟨rfl, hsz, hP, hK, hD0, hG⟩ := hv
  have hx := B.exec
  have hb := B.bytes
  have hr := B.returns
  have hts := atoms_spec (ws := wsX11_isIn) B.pre
  have hown : s.vm.findClass RX11 = some m.cls := findClass_of_methodNamed B.named
  have hlocks := B.notSynchronized
  subst hsz
  have hD := hD0.self (sz := s.heap.size)
  generalize hAe : va_A [] s.heap.size = A at hD hG ⊢
  have hA : ∀ q : Nat, s.heap.size ≤ q → A q := fun q h => by rw [← hAe]; exact Or.inr h
  have hS : va_S A s.heap s.heap [] := va_S.rf
  have hl := lv_entry ([.int 0, .int p1]) (n := 2) (Nat.le_of_ble_eq_true rfl)
  rw [lg_entry_eq]
  generalize (lg_sl ([.int 0, .int p1]) ++ List.replicate (2 - (lg_sl ([.int 0, .int p1])).length) Slot.unset).toArray = ls at hl ⊢
  have hl : lv_has ls 2 [(0, .int 0), (1, .int p1)] := hl
  refine lv_iload_n hx hb dX11_isIn_0 rfl (lv_at hl 0 rfl) ?_
  refine lv_iload_n hx hb dX11_isIn_1 rfl (lv_at hl 1 rfl) ?_
  refine lv_ishr hx hb dX11_isIn_2 ?_
  refine lv_topi (fun f_1 ef_1 => ?_)
  obtain rfl : f_1 = 0 := ef_1.trans (xshr0 _)
  refine lv_iconst (v := 1) hx hb dX11_isIn_3 (by decide) ?_
  refine lv_iand hx hb dX11_isIn_4 ?_
  refine lv_topi (fun f_2 ef_2 => ?_)
  obtain rfl : f_2 = 0 := ef_2.trans (by decide)
  refine lv_if_eq (tgt := 12) hx hb dX11_isIn_5 (by decide) (fun c_3 => ?_) (fun c_3 => absurd (by decide) c_3)
  refine lv_iconst (v := 0) hx hb dX11_isIn_12 (by decide) ?_
  have hP9 := hP.sub (ws' := []) [] rfl
  have hD9 := hD.sub (ws' := []) [] (by decide) rfl
  exact W.zret (v := 0) hx hb hr (by decide) (fun t ht hW => ⟨⟨_, _, rfl, rfl, ⟨rfl, by rw [ht]; exact hP9, hD9⟩⟩, hS.F ht⟩) hS.2.2 dX11_isIn_13
set_option maxHeartbeats 4000000 in
set_option maxRecDepth 100000 in
theorem xcX5_has (l : Launch) (hst : l.stackTraces = false) (dC : Nat → ClassId) (dI : Nat → Nat → Nat) (T : Nat → ClassId) (a1 : Nat) (a2 : Nat) (a3 : Nat) (a4 : Nat) (a5 : Nat) (a6 : Nat) (sz : Nat) (p1 : Int32) : Met l yX5_has wsX5_has ({ frames := 1, cells := 0, slots := 0, locals := 21 } : Room) (va_Pc [.ref a1, .int p1] (fun U => xB dC dI T [(a1, .inr (10, [.ref a2, .ref a3, .ref a4, .ref a5, .ref a6, .int 0, .int 0]))] sz U)) (va_Qi (fun (r u : Int32) => r = u) (fun (u : Int32) (t : State) => 0 = u ∧ xE dC dI [(a1, .inr (10, [.ref a2, .ref a3, .ref a4, .ref a5, .ref a6, .int 0, .int 0]))] (va_A [(a1, .inr (10, [.ref a2, .ref a3, .ref a4, .ref a5, .ref a6, .int 0, .int 0]))] sz) t) (va_A [(a1, .inr (10, [.ref a2, .ref a3, .ref a4, .ref a5, .ref a6, .int 0, .int 0]))] sz)) 0 0 (va_A [(a1, .inr (10, [.ref a2, .ref a3, .ref a4, .ref a5, .ref a6, .int 0, .int 0]))] sz) := by
  refine Met.ofW (cc := cX5_has) (maxL := 2) (ret := (some .boolean)) (by decide +kernel) rfl ?_
  intro p e s m args below meth c s₁ B hml hv
  obtain ⟨rfl, hsz, hP, hK, hD0, hG⟩ := hv
  have hx := B.exec
  have hb := B.bytes
  have hr := B.returns
  have hts := atoms_spec (ws := wsX5_has) B.pre
  have hown : s.vm.findClass RX5 = some m.cls := findClass_of_methodNamed B.named
  have hlocks := B.notSynchronized
  have hin_X5 : ∀ w ∈ wsX50, w ∈ wsX5_has := by decide +kernel
  subst hsz
  have hD := hD0.self (sz := s.heap.size)
  generalize hAe : va_A [(a1, .inr (10, [.ref a2, .ref a3, .ref a4, .ref a5, .ref a6, .int 0, .int 0]))] s.heap.size = A at hD hG ⊢
  have hA : ∀ q : Nat, s.heap.size ≤ q → A q := fun q h => by rw [← hAe]; exact Or.inr h
  have hS : va_S A s.heap s.heap [] := va_S.rf
  have hl := lv_entry ([.ref a1, .int p1]) (n := 2) (Nat.le_of_ble_eq_true rfl)
  rw [lg_entry_eq]
  generalize (lg_sl ([.ref a1, .int p1]) ++ List.replicate (2 - (lg_sl ([.ref a1, .int p1])).length) Slot.unset).toArray = ls at hl ⊢
  have hl : lv_has ls 2 [(0, .ref a1), (1, .int p1)] := hl
  refine lv_iload_n hx hb dX5_has_0 rfl (lv_at hl 1 rfl) ?_
  refine lv_if_lt (tgt := 25) hx hb dX5_has_1 (by decide) (fun c_1 => ?_) (fun c_1 => ?_)
  · have nc_1 : p1.toInt < 0 := (xi_lt rfl (by decide +kernel)).mp c_1
    refine lv_iconst (v := 0) hx hb dX5_has_25 (by decide) ?_
    have hP9 := hP.sub (ws' := [(a1, .inr (10, [.ref a2, .ref a3, .ref a4, .ref a5, .ref a6, .int 0, .int 0]))]) [0] rfl
    have hD9 := hD.sub (ws' := [(a1, .inr (10, [.ref a2, .ref a3, .ref a4, .ref a5, .ref a6, .int 0, .int 0]))]) [0] (by decide) rfl
    exact W.zret (v := 0) hx hb hr (by decide) (fun t ht hW => ⟨⟨_, _, rfl, rfl, ⟨rfl, by rw [ht]; exact hP9, hD9⟩⟩, hS.F ht⟩) hS.2.2 dX5_has_26
  · have nc_1 : ¬ (p1.toInt < 0) := mt (xi_lt rfl (by decide +kernel)).mpr c_1
    refine lv_iload_n hx hb dX5_has_4 rfl (lv_at hl 1 rfl) ?_
    refine lv_bipush (v := 12) hx hb dX5_has_5 (by decide) ?_
    refine lv_icmp_ge (tgt := 25) hx hb dX5_has_7 (by decide) (fun c_2 => ?_) (fun c_2 => ?_)
    · have nc_2 : 12 ≤ p1.toInt := (xi_le (by decide +kernel) rfl).mp c_2
      refine lv_iconst (v := 0) hx hb dX5_has_25 (by decide) ?_
      have hP9 := hP.sub (ws' := [(a1, .inr (10, [.ref a2, .ref a3, .ref a4, .ref a5, .ref a6, .int 0, .int 0]))]) [0] rfl
      have hD9 := hD.sub (ws' := [(a1, .inr (10, [.ref a2, .ref a3, .ref a4, .ref a5, .ref a6, .int 0, .int 0]))]) [0] (by decide) rfl
      exact W.zret (v := 0) hx hb hr (by decide) (fun t ht hW => ⟨⟨_, _, rfl, rfl, ⟨rfl, by rw [ht]; exact hP9, hD9⟩⟩, hS.F ht⟩) hS.2.2 dX5_has_26
    · have nc_2 : ¬ (12 ≤ p1.toInt) := mt (xi_le (by decide +kernel) rfl).mpr c_2
      refine lv_aload_n hx hb dX5_has_10 rfl (lv_at hl 0 rfl) ?_
      refine va_get (D := (dC, dI)) (ci := 10) (v := .int 0) (C := RX5) (T := TX5) (N := 7) hx hb hts hin_X5 hown hK hP 0 rfl rfl 5 (by decide) (hts (.fieldLink RX5 27 "Nearestward$Ground" "there" "I") (by decide +kernel)) (fun _ h9 => h9) rfl dX5_has_11 ?_
      refine lv_iload_n hx hb dX5_has_14 rfl (lv_at hl 1 rfl) ?_
      have hPc := hP.sub (ws' := []) [] rfl
      have hDc := hD.sub (ws' := []) [] (by decide) rfl
      have hFc := va_free (wc := []) hD hS hA [] rfl
      refine va_calli (va_runSN (As := [.int 0, .int p1]) (rest := []) ⟨hx, hb, hml, hown, hts⟩ (xcX11_isIn l hst dC dI T s.heap.size p1) ⟨(va_cnB 2 hts gX5_has_X11_isIn_n31 rfl rfl rfl (hG.2.2.1 (.methodLinkNest RX5 31 yX11_isIn RX11) (by decide +kernel)) (hts (.initialized RX11) (by decide +kernel)) (by decide +kernel) ⟨Nat.le_of_ble_eq_true rfl, Nat.le_of_ble_eq_true rfl⟩), hts (.static yX11_isIn) (by decide +kernel), trivial⟩ ⟨xBlind, xCall hK hG hS hPc hDc hFc⟩ rfl rfl hl.1 rfl (lv_room (Nat.le_of_ble_eq_true rfl)) dX5_has_15 ⟨Nat.le_of_ble_eq_true rfl, Nat.le_of_ble_eq_true rfl⟩) hS (fun q _ h => hFc q h) hFc (fun r_9 u t H locs ht hvm hw hB hz1 hk1 hS => ?_)
      subst hw
      rcases hB with ⟨hr_9, hP1, hD1⟩
      rw [ht] at hP1
      subst hr_9
      obtain ⟨hP, hD⟩ := va_join (wr := [(a1, .inr (10, [.ref a2, .ref a3, .ref a4, .ref a5, .ref a6, .int 0, .int 0]))]) (w1 := []) hP hD [] [0] rfl rfl (by decide) (by decide) hk1 hFc hP1 hD1
      have hP : va_P (dC, dI) vwCl [(a1, .inr (10, [.ref a2, .ref a3, .ref a4, .ref a5, .ref a6, .int 0, .int 0]))] H := hP
      have hD : va_D A [(a1, .inr (10, [.ref a2, .ref a3, .ref a4, .ref a5, .ref a6, .int 0, .int 0]))] := hD
      clear hPc hDc hFc hP1 hD1 hk1 hz1 ht hvm
      refine lv_if_eq (tgt := 25) hx hb dX5_has_18 (by decide) (fun c_4 => ?_) (fun c_4 => absurd (by decide) c_4)
      refine lv_iconst (v := 0) hx hb dX5_has_25 (by decide) ?_
      have hP9 := hP.sub (ws' := [(a1, .inr (10, [.ref a2, .ref a3, .ref a4, .ref a5, .ref a6, .int 0, .int 0]))]) [0] rfl
      have hD9 := hD.sub (ws' := [(a1, .inr (10, [.ref a2, .ref a3, .ref a4, .ref a5, .ref a6, .int 0, .int 0]))]) [0] (by decide) rfl
      exact W.zret (v := 0) hx hb hr (by decide) (fun t ht hW => ⟨⟨_, _, rfl, rfl, ⟨rfl, by rw [ht]; exact hP9, hD9⟩⟩, hS.F ht⟩) hS.2.2 dX5_has_26
set_option maxHeartbeats 4000000 in
set_option maxRecDepth 100000 in
theorem xcX5_numberAt (l : Launch) (hst : l.stackTraces = false) (dC : Nat → ClassId) (dI : Nat → Nat → Nat) (T : Nat → ClassId) (a1 : Nat) (a2 : Nat) (a3 : Nat) (a4 : Nat) (a5 : Nat) (a6 : Nat) (sz : Nat) (p1 : Int32) (p2 : Int32) : Met l yX5_numberAt wsX5_numberAt ({ frames := 2, cells := 0, slots := 0, locals := 42 } : Room) (va_Pc [.ref a1, .int p1, .int p2] (fun U => xB dC dI T [(a1, .inr (10, [.ref a2, .ref a3, .ref a4, .ref a5, .ref a6, .int 0, .int 0]))] sz U)) (va_Qi (fun (r u : Int32) => r = u) (fun (u : Int32) (t : State) => (-1) = u ∧ xE dC dI [(a1, .inr (10, [.ref a2, .ref a3, .ref a4, .ref a5, .ref a6, .int 0, .int 0]))] (va_A [(a1, .inr (10, [.ref a2, .ref a3, .ref a4, .ref a5, .ref a6, .int 0, .int 0]))] sz) t) (va_A [(a1, .inr (10, [.ref a2, .ref a3, .ref a4, .ref a5, .ref a6, .int 0, .int 0]))] sz)) 0 0 (va_A [(a1, .inr (10, [.ref a2, .ref a3, .ref a4, .ref a5, .ref a6, .int 0, .int 0]))] sz) := by
  refine Met.ofW (cc := cX5_numberAt) (maxL := 4) (ret := (some .int)) (by decide +kernel) rfl ?_
  intro p e s m args below meth c s₁ B hml hv
  obtain ⟨rfl, hsz, hP, hK, hD0, hG⟩ := hv
  have hx := B.exec
  have hb := B.bytes
  have hr := B.returns
  have hts := atoms_spec (ws := wsX5_numberAt) B.pre
  have hown : s.vm.findClass RX5 = some m.cls := findClass_of_methodNamed B.named
  have hlocks := B.notSynchronized
  subst hsz
  have hD := hD0.self (sz := s.heap.size)
  generalize hAe : va_A [(a1, .inr (10, [.ref a2, .ref a3, .ref a4, .ref a5, .ref a6, .int 0, .int 0]))] s.heap.size = A at hD hG ⊢
  have hA : ∀ q : Nat, s.heap.size ≤ q → A q := fun q h => by rw [← hAe]; exact Or.inr h
  have hS : va_S A s.heap s.heap [] := va_S.rf
  have hl := lv_entry ([.ref a1, .int p1, .int p2]) (n := 4) (Nat.le_of_ble_eq_true rfl)
  rw [lg_entry_eq]
  generalize (lg_sl ([.ref a1, .int p1, .int p2]) ++ List.replicate (4 - (lg_sl ([.ref a1, .int p1, .int p2])).length) Slot.unset).toArray = ls at hl ⊢
  have hl : lv_has ls 4 [(0, .ref a1), (1, .int p1), (2, .int p2)] := hl
  refine lv_iconst (v := 0) hx hb dX5_numberAt_0 (by decide) ?_
  refine lv_istore_n (lv' := [(3, .int 0), (0, .ref a1), (1, .int p1), (2, .int p2)]) hx hb dX5_numberAt_1 rfl hl (by decide) rfl (fun ls hl => ?_)
  refine xLoop (P := fun i_k_1 H locs ls => va_P (dC, dI) vwCl [(a1, .inr (10, [.ref a2, .ref a3, .ref a4, .ref a5, .ref a6, .int 0, .int 0]))] H ∧ va_D A [(a1, .inr (10, [.ref a2, .ref a3, .ref a4, .ref a5, .ref a6, .int 0, .int 0]))] ∧ va_S A s.heap H locs ∧ lv_has ls 4 [(3, .int (nI i_k_1)), (0, .ref a1), (1, .int p1), (2, .int p2)]) (N := 12) (fun i_k_1 H locs ls hi_k_1 hI ih_k_1 => ?_) (0) _ _ _ (by omega) ⟨hP, hD, hS, lv_sub hl [0, 1, 2, 3] rfl⟩
  obtain ⟨hP, hD, hS, hl⟩ := hI
  refine lv_iload_n hx hb dX5_numberAt_2 rfl (lv_at hl 0 rfl) ?_
  refine lv_bipush (v := 12) hx hb dX5_numberAt_3 (by decide) ?_
  have hz_3 : (nI i_k_1).toInt = ((i_k_1 : Nat) : Int) := nI_toInt (by omega)
  refine lv_icmp_ge (tgt := 44) hx hb dX5_numberAt_5 (by decide) (fun c_2 => ?_) (fun c_2 => ?_)
  · have nc_2 : 12 ≤ (nI i_k_1).toInt := (xi_le (by decide +kernel) rfl).mp c_2
    refine lv_iconst (v := (-1)) hx hb dX5_numberAt_44 (by decide) ?_
    have hP9 := hP.sub (ws' := [(a1, .inr (10, [.ref a2, .ref a3, .ref a4, .ref a5, .ref a6, .int 0, .int 0]))]) [0] rfl
    have hD9 := hD.sub (ws' := [(a1, .inr (10, [.ref a2, .ref a3, .ref a4, .ref a5, .ref a6, .int 0, .int 0]))]) [0] (by decide) rfl
    exact W.iret (v := (-1)) hx hb hr (fun t ht hW => ⟨⟨_, _, rfl, rfl, ⟨rfl, by rw [ht]; exact hP9, hD9⟩⟩, hS.F ht⟩) hS.2.2 dX5_numberAt_45
  · have nc_2 : ¬ (12 ≤ (nI i_k_1).toInt) := mt (xi_le (by decide +kernel) rfl).mpr c_2
    refine lv_aload_n hx hb dX5_numberAt_8 rfl (lv_at hl 1 rfl) ?_
    refine lv_iload_n hx hb dX5_numberAt_9 rfl (lv_at hl 0 rfl) ?_
    have hPc := hP.sub (ws' := [(a1, .inr (10, [.ref a2, .ref a3, .ref a4, .ref a5, .ref a6, .int 0, .int 0]))]) [0] rfl
    have hDc := hD.sub (ws' := [(a1, .inr (10, [.ref a2, .ref a3, .ref a4, .ref a5, .ref a6, .int 0, .int 0]))]) [0] (by decide) rfl
    have hFc := va_free (wc := [(a1, .inr (10, [.ref a2, .ref a3, .ref a4, .ref a5, .ref a6, .int 0, .int 0]))]) hD hS hA [0] rfl
    refine va_calli (va_runV (As := [.int (nI i_k_1)]) (rest := []) ⟨hx, hb, hml, hown, hts⟩ (xcX5_has l hst dC dI T a1 a2 a3 a4 a5 a6 H.size (nI i_k_1)) (cwV 1 hts gX5_numberAt_X5_has rfl rfl rfl (by decide +kernel) ⟨Nat.le_of_ble_eq_true rfl, Nat.le_of_ble_eq_true rfl⟩) ⟨xBlind, va_recv hK hPc (ci := 10) (q0 := 0) rfl rfl, xCall hK hG hS hPc hDc hFc⟩ rfl rfl hl.1 rfl (lv_room (Nat.le_of_ble_eq_true rfl)) dX5_numberAt_10 ⟨Nat.le_of_ble_eq_true rfl, Nat.le_of_ble_eq_true rfl⟩) hS (fun q _ h => hFc q h) hFc (fun r_9 u t H locs ht hvm hw hB hz1 hk1 hS => ?_)
    subst hw
    rcases hB with ⟨hr_9, hP1, hD1⟩
    rw [ht] at hP1
    subst hr_9
    obtain ⟨hP, hD⟩ := va_join (wr := []) (w1 := [(a1, .inr (10, [.ref a2, .ref a3, .ref a4, .ref a5, .ref a6, .int 0, .int 0]))]) hP hD [0] [] rfl rfl (by decide) (by decide) hk1 hFc hP1 hD1
    have hP : va_P (dC, dI) vwCl [(a1, .inr (10, [.ref a2, .ref a3, .ref a4, .ref a5, .ref a6, .int 0, .int 0]))] H := hP
    have hD : va_D A [(a1, .inr (10, [.ref a2, .ref a3, .ref a4, .ref a5, .ref a6, .int 0, .int 0]))] := hD
    clear hPc hDc hFc hP1 hD1 hk1 hz1 ht hvm
    refine lv_if_eq (tgt := 38) hx hb dX5_numberAt_13 (by decide) (fun c_5 => ?_) (fun c_5 => absurd (by decide) c_5)
    refine lv_iinc (v := (nI (i_k_1 + 1))) (lv' := [(3, .int (nI (i_k_1 + 1))), (0, .ref a1), (1, .int p1), (2, .int p2)]) hx hb dX5_numberAt_38 hl (k := 0) rfl (nI_1 _) (by decide) rfl (fun ls hl => ?_)
    refine lv_goto (tgt := 2) hx hb dX5_numberAt_41 (by decide) ?_
    exact ih_k_1 _ _ _ (by omega) ⟨hP, hD, hS, lv_sub hl [0, 1, 2, 3] rfl⟩
set_option maxHeartbeats 4000000 in
set_option maxRecDepth 100000 in
theorem xcX5_lowestFree (l : Launch) (hst : l.stackTraces = false) (dC : Nat → ClassId) (dI : Nat → Nat → Nat) (T : Nat → ClassId) (a1 : Nat) (a2 : Nat) (a3 : Nat) (a4 : Nat) (a5 : Nat) (a6 : Nat) (sz : Nat) : Met l yX5_lowestFree wsX5_lowestFree ({ frames := 2, cells := 0, slots := 0, locals := 42 } : Room) (va_Pc [.ref a1] (fun U => xB dC dI T [(a1, .inr (10, [.ref a2, .ref a3, .ref a4, .ref a5, .ref a6, .int 0, .int 0]))] sz U)) (va_Qi (fun (r u : Int32) => r = u) (fun (u : Int32) (t : State) => 0 = u ∧ xE dC dI [(a1, .inr (10, [.ref a2, .ref a3, .ref a4, .ref a5, .ref a6, .int 0, .int 0]))] (va_A [(a1, .inr (10, [.ref a2, .ref a3, .ref a4, .ref a5, .ref a6, .int 0, .int 0]))] sz) t) (va_A [(a1, .inr (10, [.ref a2, .ref a3, .ref a4, .ref a5, .ref a6, .int 0, .int 0]))] sz)) 0 0 (va_A [(a1, .inr (10, [.ref a2, .ref a3, .ref a4, .ref a5, .ref a6, .int 0, .int 0]))] sz) := by
  refine Met.ofW (cc := cX5_lowestFree) (maxL := 2) (ret := (some .int)) (by decide +kernel) rfl ?_
  intro p e s m args below meth c s₁ B hml hv
  obtain ⟨rfl, hsz, hP, hK, hD0, hG⟩ := hv
  have hx := B.exec
  have hb := B.bytes
  have hr := B.returns
  have hts := atoms_spec (ws := wsX5_lowestFree) B.pre
  have hown : s.vm.findClass RX5 = some m.cls := findClass_of_methodNamed B.named
  have hlocks := B.notSynchronized
  subst hsz
  have hD := hD0.self (sz := s.heap.size)
  generalize hAe : va_A [(a1, .inr (10, [.ref a2, .ref a3, .ref a4, .ref a5, .ref a6, .int 0, .int 0]))] s.heap.size = A at hD hG ⊢
  have hA : ∀ q : Nat, s.heap.size ≤ q → A q := fun q h => by rw [← hAe]; exact Or.inr h
  have hS : va_S A s.heap s.heap [] := va_S.rf
  have hl := lv_entry ([.ref a1]) (n := 2) (Nat.le_of_ble_eq_true rfl)
  rw [lg_entry_eq]
  generalize (lg_sl ([.ref a1]) ++ List.replicate (2 - (lg_sl ([.ref a1])).length) Slot.unset).toArray = ls at hl ⊢
  have hl : lv_has ls 2 [(0, .ref a1)] := hl
  refine lv_iconst (v := 0) hx hb dX5_lowestFree_0 (by decide) ?_
  refine lv_istore_n (lv' := [(1, .int 0), (0, .ref a1)]) hx hb dX5_lowestFree_1 rfl hl (by decide) rfl (fun ls hl => ?_)
  refine lv_iload_n hx hb dX5_lowestFree_2 rfl (lv_at hl 0 rfl) ?_
  refine lv_bipush (v := 12) hx hb dX5_lowestFree_3 (by decide) ?_
  refine lv_icmp_ge (tgt := 24) hx hb dX5_lowestFree_5 (by decide) (fun c_1 => absurd c_1 (by decide)) (fun c_1 => ?_)
  refine lv_aload_n hx hb dX5_lowestFree_8 rfl (lv_at hl 1 rfl) ?_
  refine lv_iload_n hx hb dX5_lowestFree_9 rfl (lv_at hl 0 rfl) ?_
  have hPc := hP.sub (ws' := [(a1, .inr (10, [.ref a2, .ref a3, .ref a4, .ref a5, .ref a6, .int 0, .int 0]))]) [0] rfl
  have hDc := hD.sub (ws' := [(a1, .inr (10, [.ref a2, .ref a3, .ref a4, .ref a5, .ref a6, .int 0, .int 0]))]) [0] (by decide) rfl
  have hFc := va_free (wc := [(a1, .inr (10, [.ref a2, .ref a3, .ref a4, .ref a5, .ref a6, .int 0, .int 0]))]) hD hS hA [0] rfl
  refine va_calli (va_runV (As := [.int 0]) (rest := []) ⟨hx, hb, hml, hown, hts⟩ (xcX5_has l hst dC dI T a1 a2 a3 a4 a5 a6 s.heap.size 0) (cwV 1 hts gX5_lowestFree_X5_has rfl rfl rfl (by decide +kernel) ⟨Nat.le_of_ble_eq_true rfl, Nat.le_of_ble_eq_true rfl⟩) ⟨xBlind, va_recv hK hPc (ci := 10) (q0 := 0) rfl rfl, xCall hK hG hS hPc hDc hFc⟩ rfl rfl hl.1 rfl (lv_room (Nat.le_of_ble_eq_true rfl)) dX5_lowestFree_10 ⟨Nat.le_of_ble_eq_true rfl, Nat.le_of_ble_eq_true rfl⟩) hS (fun q _ h => hFc q h) hFc (fun r_9 u t H locs ht hvm hw hB hz1 hk1 hS => ?_)
  subst hw
  rcases hB with ⟨hr_9, hP1, hD1⟩
  rw [ht] at hP1
  subst hr_9
  obtain ⟨hP, hD⟩ := va_join (wr := []) (w1 := [(a1, .inr (10, [.ref a2, .ref a3, .ref a4, .ref a5, .ref a6, .int 0, .int 0]))]) hP hD [0] [] rfl rfl (by decide) (by decide) hk1 hFc hP1 hD1
  have hP : va_P (dC, dI) vwCl [(a1, .inr (10, [.ref a2, .ref a3, .ref a4, .ref a5, .ref a6, .int 0, .int 0]))] H := hP
  have hD : va_D A [(a1, .inr (10, [.ref a2, .ref a3, .ref a4, .ref a5, .ref a6, .int 0, .int 0]))] := hD
  clear hPc hDc hFc hP1 hD1 hk1 hz1 ht hvm
  refine lv_if_ne (tgt := 18) hx hb dX5_lowestFree_13 (by decide) (fun c_3 => absurd c_3 (by decide)) (fun c_3 => ?_)
  refine lv_iload_n hx hb dX5_lowestFree_16 rfl (lv_at hl 0 rfl) ?_
  have hP9 := hP.sub (ws' := [(a1, .inr (10, [.ref a2, .ref a3, .ref a4, .ref a5, .ref a6, .int 0, .int 0]))]) [0] rfl
  have hD9 := hD.sub (ws' := [(a1, .inr (10, [.ref a2, .ref a3, .ref a4, .ref a5, .ref a6, .int 0, .int 0]))]) [0] (by decide) rfl
  exact W.iret (v := 0) hx hb hr (fun t ht hW => ⟨⟨_, _, rfl, rfl, ⟨rfl, by rw [ht]; exact hP9, hD9⟩⟩, hS.F ht⟩) hS.2.2 dX5_lowestFree_17
set_option maxHeartbeats 4000000 in
set_option maxRecDepth 100000 in
theorem xcX5_writeTo (l : Launch) (hst : l.stackTraces = false) (dC : Nat → ClassId) (dI : Nat → Nat → Nat) (T : Nat → ClassId) (a1 : Nat) (a2 : Nat) (a3 : Nat) (a4 : Nat) (a5 : Nat) (a6 : Nat) (a7 : Nat) (sz : Nat) : Met l yX5_writeTo wsX5_writeTo ({ frames := 2, cells := 0, slots := 0, locals := 42 } : Room) (va_Pc [.ref a1, .ref a2] (fun U => xB dC dI T [(a1, .inr (10, [.ref a3, .ref a4, .ref a5, .ref a6, .ref a7, .int 0, .int 0])), (a3, .inl (T 0, 12, .inl (fun _ => 0))), (a4, .inl (T 0, 12, .inl (fun _ => 0))), (a5, .inl (T 0, 12, .inl (fun _ => 0))), (a6, .inl (T 0, 12, .inl (fun _ => 0))), (a7, .inl (T 0, 12, .inl (fun _ => 0))), (a2, .inl (T 0, 72, .inl (fun _ => 0)))] sz U)) (va_Qv (fun _ : Unit => True) (fun (_ : Unit) (t : State) => xE dC dI [(a1, .inr (10, [.ref a3, .ref a4, .ref a5, .ref a6, .ref a7, .int 0, .int 0])), (a3, .inl (T 0, 12, .inl (fun _ => 0))), (a4, .inl (T 0, 12, .inl (fun _ => 0))), (a5, .inl (T 0, 12, .inl (fun _ => 0))), (a6, .inl (T 0, 12, .inl (fun _ => 0))), (a7, .inl (T 0, 12, .inl (fun _ => 0))), (a2, .inl (T 0, 72, .inl (fun _ => 0)))] (va_A [(a1, .inr (10, [.ref a3, .ref a4, .ref a5, .ref a6, .ref a7, .int 0, .int 0])), (a3, .inl (T 0, 12, .inl (fun _ => 0))), (a4, .inl (T 0, 12, .inl (fun _ => 0))), (a5, .inl (T 0, 12, .inl (fun _ => 0))), (a6, .inl (T 0, 12, .inl (fun _ => 0))), (a7, .inl (T 0, 12, .inl (fun _ => 0))), (a2, .inl (T 0, 72, .inl (fun _ => 0)))] sz) t) (va_A [(a1, .inr (10, [.ref a3, .ref a4, .ref a5, .ref a6, .ref a7, .int 0, .int 0])), (a3, .inl (T 0, 12, .inl (fun _ => 0))), (a4, .inl (T 0, 12, .inl (fun _ => 0))), (a5, .inl (T 0, 12, .inl (fun _ => 0))), (a6, .inl (T 0, 12, .inl (fun _ => 0))), (a7, .inl (T 0, 12, .inl (fun _ => 0))), (a2, .inl (T 0, 72, .inl (fun _ => 0)))] sz)) 0 0 (va_A [(a1, .inr (10, [.ref a3, .ref a4, .ref a5, .ref a6, .ref a7, .int 0, .int 0])), (a3, .inl (T 0, 12, .inl (fun _ => 0))), (a4, .inl (T 0, 12, .inl (fun _ => 0))), (a5, .inl (T 0, 12, .inl (fun _ => 0))), (a6, .inl (T 0, 12, .inl (fun _ => 0))), (a7, .inl (T 0, 12, .inl (fun _ => 0))), (a2, .inl (T 0, 72, .inl (fun _ => 0)))] sz) := by
  refine Met.ofW (cc := cX5_writeTo) (maxL := 4) (ret := none) (by decide +kernel) rfl ?_
  intro p e s m args below meth c s₁ B hml hv
  obtain ⟨rfl, hsz, hP, hK, hD0, hG⟩ := hv
  have hx := B.exec
  have hb := B.bytes
  have hr := B.returns
  have hts := atoms_spec (ws := wsX5_writeTo) B.pre
  have hown : s.vm.findClass RX5 = some m.cls := findClass_of_methodNamed B.named
  have hlocks := B.notSynchronized
  have hin_X5 : ∀ w ∈ wsX50, w ∈ wsX5_writeTo := by decide +kernel
  subst hsz
  have hD := hD0.self (sz := s.heap.size)
  generalize hAe : va_A [(a1, .inr (10, [.ref a3, .ref a4, .ref a5, .ref a6, .ref a7, .int 0, .int 0])), (a3, .inl (T 0, 12, .inl (fun _ => 0))), (a4, .inl (T 0, 12, .inl (fun _ => 0))), (a5, .inl (T 0, 12, .inl (fun _ => 0))), (a6, .inl (T 0, 12, .inl (fun _ => 0))), (a7, .inl (T 0, 12, .inl (fun _ => 0))), (a2, .inl (T 0, 72, .inl (fun _ => 0)))] s.heap.size = A at hD hG ⊢
  have hA : ∀ q : Nat, s.heap.size ≤ q → A q := fun q h => by rw [← hAe]; exact Or.inr h
  have hS : va_S A s.heap s.heap [] := va_S.rf
  have hl := lv_entry ([.ref a1, .ref a2]) (n := 4) (Nat.le_of_ble_eq_true rfl)
  rw [lg_entry_eq]
  generalize (lg_sl ([.ref a1, .ref a2]) ++ List.replicate (4 - (lg_sl ([.ref a1, .ref a2])).length) Slot.unset).toArray = ls at hl ⊢
  have hl : lv_has ls 4 [(0, .ref a1), (1, .ref a2)] := hl
  refine lv_iconst (v := 0) hx hb dX5_writeTo_0 (by decide) ?_
  refine lv_istore_n (lv' := [(2, .int 0), (0, .ref a1), (1, .ref a2)]) hx hb dX5_writeTo_1 rfl hl (by decide) rfl (fun ls hl => ?_)
  refine xLoop (P := fun i_k_1 H locs ls => va_P (dC, dI) vwCl [(a1, .inr (10, [.ref a3, .ref a4, .ref a5, .ref a6, .ref a7, .int 0, .int 0])), (a3, .inl (T 0, 12, .inl (fun _ => 0))), (a4, .inl (T 0, 12, .inl (fun _ => 0))), (a5, .inl (T 0, 12, .inl (fun _ => 0))), (a6, .inl (T 0, 12, .inl (fun _ => 0))), (a7, .inl (T 0, 12, .inl (fun _ => 0))), (a2, .inl (T 0, 72, .inl (fun _ => 0)))] H ∧ va_D A [(a1, .inr (10, [.ref a3, .ref a4, .ref a5, .ref a6, .ref a7, .int 0, .int 0])), (a3, .inl (T 0, 12, .inl (fun _ => 0))), (a4, .inl (T 0, 12, .inl (fun _ => 0))), (a5, .inl (T 0, 12, .inl (fun _ => 0))), (a6, .inl (T 0, 12, .inl (fun _ => 0))), (a7, .inl (T 0, 12, .inl (fun _ => 0))), (a2, .inl (T 0, 72, .inl (fun _ => 0)))] ∧ va_S A s.heap H locs ∧ lv_has ls 4 [(2, .int (nI i_k_1)), (0, .ref a1), (1, .ref a2)]) (N := 12) (fun i_k_1 H locs ls hi_k_1 hI ih_k_1 => ?_) (0) _ _ _ (by omega) ⟨hP, hD, hS, lv_sub hl [0, 1, 2] rfl⟩
  obtain ⟨hP, hD, hS, hl⟩ := hI
  refine lv_iload_n hx hb dX5_writeTo_2 rfl (lv_at hl 0 rfl) ?_
  refine lv_bipush (v := 12) hx hb dX5_writeTo_3 (by decide) ?_
  have hz_3 : (nI i_k_1).toInt = ((i_k_1 : Nat) : Int) := nI_toInt (by omega)
  refine lv_icmp_ge (tgt := 99) hx hb dX5_writeTo_5 (by decide) (fun c_2 => ?_) (fun c_2 => ?_)
  · have nc_2 : 12 ≤ (nI i_k_1).toInt := (xi_le (by decide +kernel) rfl).mp c_2
    have hP9 := hP.sub (ws' := [(a1, .inr (10, [.ref a3, .ref a4, .ref a5, .ref a6, .ref a7, .int 0, .int 0])), (a3, .inl (T 0, 12, .inl (fun _ => 0))), (a4, .inl (T 0, 12, .inl (fun _ => 0))), (a5, .inl (T 0, 12, .inl (fun _ => 0))), (a6, .inl (T 0, 12, .inl (fun _ => 0))), (a7, .inl (T 0, 12, .inl (fun _ => 0))), (a2, .inl (T 0, 72, .inl (fun _ => 0)))]) [0, 1, 2, 3, 4, 5, 6] rfl
    have hD9 := hD.sub (ws' := [(a1, .inr (10, [.ref a3, .ref a4, .ref a5, .ref a6, .ref a7, .int 0, .int 0])), (a3, .inl (T 0, 12, .inl (fun _ => 0))), (a4, .inl (T 0, 12, .inl (fun _ => 0))), (a5, .inl (T 0, 12, .inl (fun _ => 0))), (a6, .inl (T 0, 12, .inl (fun _ => 0))), (a7, .inl (T 0, 12, .inl (fun _ => 0))), (a2, .inl (T 0, 72, .inl (fun _ => 0)))]) [0, 1, 2, 3, 4, 5, 6] (by decide) rfl
    exact W.vret hx hb hr (fun t ht hW => ⟨⟨(), rfl, trivial, ⟨by rw [ht]; exact hP9, hD9⟩⟩, hS.F ht⟩) hS.2.2 dX5_writeTo_99
  · have nc_2 : ¬ (12 ≤ (nI i_k_1).toInt) := mt (xi_le (by decide +kernel) rfl).mpr c_2
    refine lv_iload_n hx hb dX5_writeTo_8 rfl (lv_at hl 0 rfl) ?_
    refine lv_bipush (v := 6) hx hb dX5_writeTo_9 (by decide) ?_
    refine lv_imul hx hb dX5_writeTo_11 ?_
    refine lv_topi (fun f_4 ef_4 => ?_)
    obtain rfl : f_4 = (nI (i_k_1 * 6)) := ef_4.trans (xmul _ _)
    refine lv_istore_n (lv' := [(3, .int (nI (i_k_1 * 6))), (2, .int (nI i_k_1)), (0, .ref a1), (1, .ref a2)]) hx hb dX5_writeTo_12 rfl hl (by decide) rfl (fun ls hl => ?_)
    refine lv_iload_n hx hb dX5_writeTo_13 rfl (lv_at hl 0 rfl) ?_
    refine lv_bipush (v := 6) hx hb dX5_writeTo_14 (by decide) ?_
    refine lv_iadd hx hb dX5_writeTo_16 ?_
    refine lv_topi (fun f_5 ef_5 => ?_)
    obtain rfl : f_5 = (nI ((i_k_1 * 6) + 6)) := ef_5.trans (nI_add _ _)
    refine lv_aload_n hx hb dX5_writeTo_17 rfl (lv_at hl 3 rfl) ?_
    refine va_alen (v := 72) hx hb hK hP 6 0 rfl rfl (by decide) dX5_writeTo_18 ?_
    have hz_7 : (nI ((i_k_1 * 6) + 6)).toInt = (((i_k_1 * 6) + 6 : Nat) : Int) := nI_toInt (by omega)
    refine lv_icmp_gt (tgt := 93) hx hb dX5_writeTo_19 (by decide) (fun c_6 => ?_) (fun c_6 => ?_)
    · have nc_6 : 72 < (nI ((i_k_1 * 6) + 6)).toInt := (xi_lt (by decide +kernel) rfl).mp c_6
      refine lv_iinc (v := (nI (i_k_1 + 1))) (lv' := [(2, .int (nI (i_k_1 + 1))), (3, .int (nI (i_k_1 * 6))), (0, .ref a1), (1, .ref a2)]) hx hb dX5_writeTo_93 hl (k := 1) rfl (nI_1 _) (by decide) rfl (fun ls hl => ?_)
      refine lv_goto (tgt := 2) hx hb dX5_writeTo_96 (by decide) ?_
      exact ih_k_1 _ _ _ (by omega) ⟨hP, hD, hS, lv_sub hl [0, 2, 3] rfl⟩
    · have nc_6 : ¬ (72 < (nI ((i_k_1 * 6) + 6)).toInt) := mt (xi_lt (by decide +kernel) rfl).mpr c_6
      refine lv_aload_n hx hb dX5_writeTo_22 rfl (lv_at hl 3 rfl) ?_
      refine lv_iload_n hx hb dX5_writeTo_23 rfl (lv_at hl 0 rfl) ?_
      refine lv_aload_n hx hb dX5_writeTo_24 rfl (lv_at hl 2 rfl) ?_
      refine lv_iload_n hx hb dX5_writeTo_25 rfl (lv_at hl 1 rfl) ?_
      have hPc := hP.sub (ws' := [(a1, .inr (10, [.ref a3, .ref a4, .ref a5, .ref a6, .ref a7, .int 0, .int 0]))]) [0] rfl
      have hDc := hD.sub (ws' := [(a1, .inr (10, [.ref a3, .ref a4, .ref a5, .ref a6, .ref a7, .int 0, .int 0]))]) [0] (by decide) rfl
      have hFc := va_free (wc := [(a1, .inr (10, [.ref a3, .ref a4, .ref a5, .ref a6, .ref a7, .int 0, .int 0]))]) hD hS hA [0] rfl
      refine va_calli (va_runV (As := [.int (nI i_k_1)]) (rest := [.int (nI (i_k_1 * 6)), .ref a2]) ⟨hx, hb, hml, hown, hts⟩ (xcX5_has l hst dC dI T a1 a3 a4 a5 a6 a7 H.size (nI i_k_1)) (cwV 1 hts gX5_writeTo_X5_has rfl rfl rfl (by decide +kernel) ⟨Nat.le_of_ble_eq_true rfl, Nat.le_of_ble_eq_true rfl⟩) ⟨xBlind, va_recv hK hPc (ci := 10) (q0 := 0) rfl rfl, xCall hK hG hS hPc hDc hFc⟩ rfl rfl hl.1 rfl (lv_room (Nat.le_of_ble_eq_true rfl)) dX5_writeTo_26 ⟨Nat.le_of_ble_eq_true rfl, Nat.le_of_ble_eq_true rfl⟩) hS (fun q _ h => hFc q h) hFc (fun r_9 u t H locs ht hvm hw hB hz1 hk1 hS => ?_)
      subst hw
      rcases hB with ⟨hr_9, hP1, hD1⟩
      rw [ht] at hP1
      subst hr_9
      obtain ⟨hP, hD⟩ := va_join (wr := [(a3, .inl (T 0, 12, .inl (fun _ => 0))), (a4, .inl (T 0, 12, .inl (fun _ => 0))), (a5, .inl (T 0, 12, .inl (fun _ => 0))), (a6, .inl (T 0, 12, .inl (fun _ => 0))), (a7, .inl (T 0, 12, .inl (fun _ => 0))), (a2, .inl (T 0, 72, .inl (fun _ => 0)))]) (w1 := [(a1, .inr (10, [.ref a3, .ref a4, .ref a5, .ref a6, .ref a7, .int 0, .int 0]))]) hP hD [0] [1, 2, 3, 4, 5, 6] rfl rfl (by decide) (by decide) hk1 hFc hP1 hD1
      have hP := hP.sub (ws' := [(a1, .inr (10, [.ref a3, .ref a4, .ref a5, .ref a6, .ref a7, .int 0, .int 0])), (a3, .inl (T 0, 12, .inl (fun _ => 0))), (a4, .inl (T 0, 12, .inl (fun _ => 0))), (a5, .inl (T 0, 12, .inl (fun _ => 0))), (a6, .inl (T 0, 12, .inl (fun _ => 0))), (a7, .inl (T 0, 12, .inl (fun _ => 0))), (a2, .inl (T 0, 72, .inl (fun _ => 0)))]) [6, 0, 1, 2, 3, 4, 5] rfl
      have hD := hD.sub (ws' := [(a1, .inr (10, [.ref a3, .ref a4, .ref a5, .ref a6, .ref a7, .int 0, .int 0])), (a3, .inl (T 0, 12, .inl (fun _ => 0))), (a4, .inl (T 0, 12, .inl (fun _ => 0))), (a5, .inl (T 0, 12, .inl (fun _ => 0))), (a6, .inl (T 0, 12, .inl (fun _ => 0))), (a7, .inl (T 0, 12, .inl (fun _ => 0))), (a2, .inl (T 0, 72, .inl (fun _ => 0)))]) [6, 0, 1, 2, 3, 4, 5] (by decide) rfl
      clear hPc hDc hFc hP1 hD1 hk1 hz1 ht hvm
      refine lv_if_eq (tgt := 36) hx hb dX5_writeTo_29 (by decide) (fun c_9 => ?_) (fun c_9 => absurd (by decide) c_9)
      refine lv_iconst (v := 0) hx hb dX5_writeTo_36 (by decide) ?_
      refine va_iast hx hb hK hP hD hS 6 0 rfl rfl (vp_in_nI (by omega) (by decide)) dX5_writeTo_37 (fun H locs hP hD hS => ?_)
      have hP : va_P (dC, dI) vwCl [(a1, .inr (10, [.ref a3, .ref a4, .ref a5, .ref a6, .ref a7, .int 0, .int 0])), (a3, .inl (T 0, 12, .inl (fun _ => 0))), (a4, .inl (T 0, 12, .inl (fun _ => 0))), (a5, .inl (T 0, 12, .inl (fun _ => 0))), (a6, .inl (T 0, 12, .inl (fun _ => 0))), (a7, .inl (T 0, 12, .inl (fun _ => 0))), (a2, .inl (T 0, 72, .inl (fun _ => 0)))] H := by have h9 : va_P (dC, dI) vwCl [(a1, .inr (10, [.ref a3, .ref a4, .ref a5, .ref a6, .ref a7, .int 0, .int 0])), (a3, .inl (T 0, 12, .inl (fun _ => 0))), (a4, .inl (T 0, 12, .inl (fun _ => 0))), (a5, .inl (T 0, 12, .inl (fun _ => 0))), (a6, .inl (T 0, 12, .inl (fun _ => 0))), (a7, .inl (T 0, 12, .inl (fun _ => 0))), (a2, .inl (T 0, 72, .inl (upd (fun _ => 0) ((nI (i_k_1 * 6)) : Int32).toNatClampNeg 0)))] H := hP; rw [xz] at h9; exact h9
      have hD : va_D A [(a1, .inr (10, [.ref a3, .ref a4, .ref a5, .ref a6, .ref a7, .int 0, .int 0])), (a3, .inl (T 0, 12, .inl (fun _ => 0))), (a4, .inl (T 0, 12, .inl (fun _ => 0))), (a5, .inl (T 0, 12, .inl (fun _ => 0))), (a6, .inl (T 0, 12, .inl (fun _ => 0))), (a7, .inl (T 0, 12, .inl (fun _ => 0))), (a2, .inl (T 0, 72, .inl (fun _ => 0)))] := by have h9 : va_D A [(a1, .inr (10, [.ref a3, .ref a4, .ref a5, .ref a6, .ref a7, .int 0, .int 0])), (a3, .inl (T 0, 12, .inl (fun _ => 0))), (a4, .inl (T 0, 12, .inl (fun _ => 0))), (a5, .inl (T 0, 12, .inl (fun _ => 0))), (a6, .inl (T 0, 12, .inl (fun _ => 0))), (a7, .inl (T 0, 12, .inl (fun _ => 0))), (a2, .inl (T 0, 72, .inl (upd (fun _ => 0) ((nI (i_k_1 * 6)) : Int32).toNatClampNeg 0)))] := hD; rw [xz] at h9; exact h9
      refine lv_aload_n hx hb dX5_writeTo_38 rfl (lv_at hl 3 rfl) ?_
      refine lv_iload_n hx hb dX5_writeTo_39 rfl (lv_at hl 0 rfl) ?_
      refine lv_iconst (v := 1) hx hb dX5_writeTo_40 (by decide) ?_
      refine lv_iadd hx hb dX5_writeTo_41 ?_
      refine lv_topi (fun f_10 ef_10 => ?_)
      obtain rfl : f_10 = (nI ((i_k_1 * 6) + 1)) := ef_10.trans (nI_add _ _)
      refine lv_aload_n hx hb dX5_writeTo_42 rfl (lv_at hl 2 rfl) ?_
      refine va_get (D := (dC, dI)) (ci := 10) (v := .ref a3) (C := RX5) (T := TX5) (N := 7) hx hb hts hin_X5 hown hK hP 0 rfl rfl 0 (by decide) (hts (.fieldLink RX5 9 "Nearestward$Ground" "xs" "[I") (by decide +kernel)) (fun _ h9 => h9) rfl dX5_writeTo_43 ?_
      refine lv_iload_n hx hb dX5_writeTo_46 rfl (lv_at hl 1 rfl) ?_
      refine va_iald hx hb hK hP 1 0 rfl rfl (vp_in_nI (by omega) (by decide)) dX5_writeTo_47 ?_
      refine lv_topi (fun f_11 ef_11 => ?_)
      obtain rfl : f_11 = 0 := ef_11
      refine va_iast hx hb hK hP hD hS 6 0 rfl rfl (vp_in_nI (by omega) (by decide)) dX5_writeTo_48 (fun H locs hP hD hS => ?_)
      have hP : va_P (dC, dI) vwCl [(a1, .inr (10, [.ref a3, .ref a4, .ref a5, .ref a6, .ref a7, .int 0, .int 0])), (a3, .inl (T 0, 12, .inl (fun _ => 0))), (a4, .inl (T 0, 12, .inl (fun _ => 0))), (a5, .inl (T 0, 12, .inl (fun _ => 0))), (a6, .inl (T 0, 12, .inl (fun _ => 0))), (a7, .inl (T 0, 12, .inl (fun _ => 0))), (a2, .inl (T 0, 72, .inl (fun _ => 0)))] H := by have h9 : va_P (dC, dI) vwCl [(a1, .inr (10, [.ref a3, .ref a4, .ref a5, .ref a6, .ref a7, .int 0, .int 0])), (a3, .inl (T 0, 12, .inl (fun _ => 0))), (a4, .inl (T 0, 12, .inl (fun _ => 0))), (a5, .inl (T 0, 12, .inl (fun _ => 0))), (a6, .inl (T 0, 12, .inl (fun _ => 0))), (a7, .inl (T 0, 12, .inl (fun _ => 0))), (a2, .inl (T 0, 72, .inl (upd (fun _ => 0) ((nI ((i_k_1 * 6) + 1)) : Int32).toNatClampNeg 0)))] H := hP; rw [xz] at h9; exact h9
      have hD : va_D A [(a1, .inr (10, [.ref a3, .ref a4, .ref a5, .ref a6, .ref a7, .int 0, .int 0])), (a3, .inl (T 0, 12, .inl (fun _ => 0))), (a4, .inl (T 0, 12, .inl (fun _ => 0))), (a5, .inl (T 0, 12, .inl (fun _ => 0))), (a6, .inl (T 0, 12, .inl (fun _ => 0))), (a7, .inl (T 0, 12, .inl (fun _ => 0))), (a2, .inl (T 0, 72, .inl (fun _ => 0)))] := by have h9 : va_D A [(a1, .inr (10, [.ref a3, .ref a4, .ref a5, .ref a6, .ref a7, .int 0, .int 0])), (a3, .inl (T 0, 12, .inl (fun _ => 0))), (a4, .inl (T 0, 12, .inl (fun _ => 0))), (a5, .inl (T 0, 12, .inl (fun _ => 0))), (a6, .inl (T 0, 12, .inl (fun _ => 0))), (a7, .inl (T 0, 12, .inl (fun _ => 0))), (a2, .inl (T 0, 72, .inl (upd (fun _ => 0) ((nI ((i_k_1 * 6) + 1)) : Int32).toNatClampNeg 0)))] := hD; rw [xz] at h9; exact h9
      refine lv_aload_n hx hb dX5_writeTo_49 rfl (lv_at hl 3 rfl) ?_
      refine lv_iload_n hx hb dX5_writeTo_50 rfl (lv_at hl 0 rfl) ?_
      refine lv_iconst (v := 2) hx hb dX5_writeTo_51 (by decide) ?_
      refine lv_iadd hx hb dX5_writeTo_52 ?_
      refine lv_topi (fun f_12 ef_12 => ?_)
      obtain rfl : f_12 = (nI ((i_k_1 * 6) + 2)) := ef_12.trans (nI_add _ _)
      refine lv_aload_n hx hb dX5_writeTo_53 rfl (lv_at hl 2 rfl) ?_
      refine va_get (D := (dC, dI)) (ci := 10) (v := .ref a4) (C := RX5) (T := TX5) (N := 7) hx hb hts hin_X5 hown hK hP 0 rfl rfl 1 (by decide) (hts (.fieldLink RX5 15 "Nearestward$Ground" "ys" "[I") (by decide +kernel)) (fun _ h9 => h9) rfl dX5_writeTo_54 ?_
      refine lv_iload_n hx hb dX5_writeTo_57 rfl (lv_at hl 1 rfl) ?_
      refine va_iald hx hb hK hP 2 0 rfl rfl (vp_in_nI (by omega) (by decide)) dX5_writeTo_58 ?_
      refine lv_topi (fun f_13 ef_13 => ?_)
      obtain rfl : f_13 = 0 := ef_13
      refine va_iast hx hb hK hP hD hS 6 0 rfl rfl (vp_in_nI (by omega) (by decide)) dX5_writeTo_59 (fun H locs hP hD hS => ?_)
      have hP : va_P (dC, dI) vwCl [(a1, .inr (10, [.ref a3, .ref a4, .ref a5, .ref a6, .ref a7, .int 0, .int 0])), (a3, .inl (T 0, 12, .inl (fun _ => 0))), (a4, .inl (T 0, 12, .inl (fun _ => 0))), (a5, .inl (T 0, 12, .inl (fun _ => 0))), (a6, .inl (T 0, 12, .inl (fun _ => 0))), (a7, .inl (T 0, 12, .inl (fun _ => 0))), (a2, .inl (T 0, 72, .inl (fun _ => 0)))] H := by have h9 : va_P (dC, dI) vwCl [(a1, .inr (10, [.ref a3, .ref a4, .ref a5, .ref a6, .ref a7, .int 0, .int 0])), (a3, .inl (T 0, 12, .inl (fun _ => 0))), (a4, .inl (T 0, 12, .inl (fun _ => 0))), (a5, .inl (T 0, 12, .inl (fun _ => 0))), (a6, .inl (T 0, 12, .inl (fun _ => 0))), (a7, .inl (T 0, 12, .inl (fun _ => 0))), (a2, .inl (T 0, 72, .inl (upd (fun _ => 0) ((nI ((i_k_1 * 6) + 2)) : Int32).toNatClampNeg 0)))] H := hP; rw [xz] at h9; exact h9
      have hD : va_D A [(a1, .inr (10, [.ref a3, .ref a4, .ref a5, .ref a6, .ref a7, .int 0, .int 0])), (a3, .inl (T 0, 12, .inl (fun _ => 0))), (a4, .inl (T 0, 12, .inl (fun _ => 0))), (a5, .inl (T 0, 12, .inl (fun _ => 0))), (a6, .inl (T 0, 12, .inl (fun _ => 0))), (a7, .inl (T 0, 12, .inl (fun _ => 0))), (a2, .inl (T 0, 72, .inl (fun _ => 0)))] := by have h9 : va_D A [(a1, .inr (10, [.ref a3, .ref a4, .ref a5, .ref a6, .ref a7, .int 0, .int 0])), (a3, .inl (T 0, 12, .inl (fun _ => 0))), (a4, .inl (T 0, 12, .inl (fun _ => 0))), (a5, .inl (T 0, 12, .inl (fun _ => 0))), (a6, .inl (T 0, 12, .inl (fun _ => 0))), (a7, .inl (T 0, 12, .inl (fun _ => 0))), (a2, .inl (T 0, 72, .inl (upd (fun _ => 0) ((nI ((i_k_1 * 6) + 2)) : Int32).toNatClampNeg 0)))] := hD; rw [xz] at h9; exact h9
      refine lv_aload_n hx hb dX5_writeTo_60 rfl (lv_at hl 3 rfl) ?_
      refine lv_iload_n hx hb dX5_writeTo_61 rfl (lv_at hl 0 rfl) ?_
      refine lv_iconst (v := 3) hx hb dX5_writeTo_62 (by decide) ?_
      refine lv_iadd hx hb dX5_writeTo_63 ?_
      refine lv_topi (fun f_14 ef_14 => ?_)
      obtain rfl : f_14 = (nI ((i_k_1 * 6) + 3)) := ef_14.trans (nI_add _ _)
      refine lv_aload_n hx hb dX5_writeTo_64 rfl (lv_at hl 2 rfl) ?_
      refine va_get (D := (dC, dI)) (ci := 10) (v := .ref a5) (C := RX5) (T := TX5) (N := 7) hx hb hts hin_X5 hown hK hP 0 rfl rfl 2 (by decide) (hts (.fieldLink RX5 18 "Nearestward$Ground" "weights" "[I") (by decide +kernel)) (fun _ h9 => h9) rfl dX5_writeTo_65 ?_
      refine lv_iload_n hx hb dX5_writeTo_68 rfl (lv_at hl 1 rfl) ?_
      refine va_iald hx hb hK hP 3 0 rfl rfl (vp_in_nI (by omega) (by decide)) dX5_writeTo_69 ?_
      refine lv_topi (fun f_15 ef_15 => ?_)
      obtain rfl : f_15 = 0 := ef_15
      refine va_iast hx hb hK hP hD hS 6 0 rfl rfl (vp_in_nI (by omega) (by decide)) dX5_writeTo_70 (fun H locs hP hD hS => ?_)
      have hP : va_P (dC, dI) vwCl [(a1, .inr (10, [.ref a3, .ref a4, .ref a5, .ref a6, .ref a7, .int 0, .int 0])), (a3, .inl (T 0, 12, .inl (fun _ => 0))), (a4, .inl (T 0, 12, .inl (fun _ => 0))), (a5, .inl (T 0, 12, .inl (fun _ => 0))), (a6, .inl (T 0, 12, .inl (fun _ => 0))), (a7, .inl (T 0, 12, .inl (fun _ => 0))), (a2, .inl (T 0, 72, .inl (fun _ => 0)))] H := by have h9 : va_P (dC, dI) vwCl [(a1, .inr (10, [.ref a3, .ref a4, .ref a5, .ref a6, .ref a7, .int 0, .int 0])), (a3, .inl (T 0, 12, .inl (fun _ => 0))), (a4, .inl (T 0, 12, .inl (fun _ => 0))), (a5, .inl (T 0, 12, .inl (fun _ => 0))), (a6, .inl (T 0, 12, .inl (fun _ => 0))), (a7, .inl (T 0, 12, .inl (fun _ => 0))), (a2, .inl (T 0, 72, .inl (upd (fun _ => 0) ((nI ((i_k_1 * 6) + 3)) : Int32).toNatClampNeg 0)))] H := hP; rw [xz] at h9; exact h9
      have hD : va_D A [(a1, .inr (10, [.ref a3, .ref a4, .ref a5, .ref a6, .ref a7, .int 0, .int 0])), (a3, .inl (T 0, 12, .inl (fun _ => 0))), (a4, .inl (T 0, 12, .inl (fun _ => 0))), (a5, .inl (T 0, 12, .inl (fun _ => 0))), (a6, .inl (T 0, 12, .inl (fun _ => 0))), (a7, .inl (T 0, 12, .inl (fun _ => 0))), (a2, .inl (T 0, 72, .inl (fun _ => 0)))] := by have h9 : va_D A [(a1, .inr (10, [.ref a3, .ref a4, .ref a5, .ref a6, .ref a7, .int 0, .int 0])), (a3, .inl (T 0, 12, .inl (fun _ => 0))), (a4, .inl (T 0, 12, .inl (fun _ => 0))), (a5, .inl (T 0, 12, .inl (fun _ => 0))), (a6, .inl (T 0, 12, .inl (fun _ => 0))), (a7, .inl (T 0, 12, .inl (fun _ => 0))), (a2, .inl (T 0, 72, .inl (upd (fun _ => 0) ((nI ((i_k_1 * 6) + 3)) : Int32).toNatClampNeg 0)))] := hD; rw [xz] at h9; exact h9
      refine lv_aload_n hx hb dX5_writeTo_71 rfl (lv_at hl 3 rfl) ?_
      refine lv_iload_n hx hb dX5_writeTo_72 rfl (lv_at hl 0 rfl) ?_
      refine lv_iconst (v := 4) hx hb dX5_writeTo_73 (by decide) ?_
      refine lv_iadd hx hb dX5_writeTo_74 ?_
      refine lv_topi (fun f_16 ef_16 => ?_)
      obtain rfl : f_16 = (nI ((i_k_1 * 6) + 4)) := ef_16.trans (nI_add _ _)
      refine lv_aload_n hx hb dX5_writeTo_75 rfl (lv_at hl 2 rfl) ?_
      refine va_get (D := (dC, dI)) (ci := 10) (v := .ref a6) (C := RX5) (T := TX5) (N := 7) hx hb hts hin_X5 hown hK hP 0 rfl rfl 3 (by decide) (hts (.fieldLink RX5 21 "Nearestward$Ground" "speedXs" "[I") (by decide +kernel)) (fun _ h9 => h9) rfl dX5_writeTo_76 ?_
      refine lv_iload_n hx hb dX5_writeTo_79 rfl (lv_at hl 1 rfl) ?_
      refine va_iald hx hb hK hP 4 0 rfl rfl (vp_in_nI (by omega) (by decide)) dX5_writeTo_80 ?_
      refine lv_topi (fun f_17 ef_17 => ?_)
      obtain rfl : f_17 = 0 := ef_17
      refine va_iast hx hb hK hP hD hS 6 0 rfl rfl (vp_in_nI (by omega) (by decide)) dX5_writeTo_81 (fun H locs hP hD hS => ?_)
      have hP : va_P (dC, dI) vwCl [(a1, .inr (10, [.ref a3, .ref a4, .ref a5, .ref a6, .ref a7, .int 0, .int 0])), (a3, .inl (T 0, 12, .inl (fun _ => 0))), (a4, .inl (T 0, 12, .inl (fun _ => 0))), (a5, .inl (T 0, 12, .inl (fun _ => 0))), (a6, .inl (T 0, 12, .inl (fun _ => 0))), (a7, .inl (T 0, 12, .inl (fun _ => 0))), (a2, .inl (T 0, 72, .inl (fun _ => 0)))] H := by have h9 : va_P (dC, dI) vwCl [(a1, .inr (10, [.ref a3, .ref a4, .ref a5, .ref a6, .ref a7, .int 0, .int 0])), (a3, .inl (T 0, 12, .inl (fun _ => 0))), (a4, .inl (T 0, 12, .inl (fun _ => 0))), (a5, .inl (T 0, 12, .inl (fun _ => 0))), (a6, .inl (T 0, 12, .inl (fun _ => 0))), (a7, .inl (T 0, 12, .inl (fun _ => 0))), (a2, .inl (T 0, 72, .inl (upd (fun _ => 0) ((nI ((i_k_1 * 6) + 4)) : Int32).toNatClampNeg 0)))] H := hP; rw [xz] at h9; exact h9
      have hD : va_D A [(a1, .inr (10, [.ref a3, .ref a4, .ref a5, .ref a6, .ref a7, .int 0, .int 0])), (a3, .inl (T 0, 12, .inl (fun _ => 0))), (a4, .inl (T 0, 12, .inl (fun _ => 0))), (a5, .inl (T 0, 12, .inl (fun _ => 0))), (a6, .inl (T 0, 12, .inl (fun _ => 0))), (a7, .inl (T 0, 12, .inl (fun _ => 0))), (a2, .inl (T 0, 72, .inl (fun _ => 0)))] := by have h9 : va_D A [(a1, .inr (10, [.ref a3, .ref a4, .ref a5, .ref a6, .ref a7, .int 0, .int 0])), (a3, .inl (T 0, 12, .inl (fun _ => 0))), (a4, .inl (T 0, 12, .inl (fun _ => 0))), (a5, .inl (T 0, 12, .inl (fun _ => 0))), (a6, .inl (T 0, 12, .inl (fun _ => 0))), (a7, .inl (T 0, 12, .inl (fun _ => 0))), (a2, .inl (T 0, 72, .inl (upd (fun _ => 0) ((nI ((i_k_1 * 6) + 4)) : Int32).toNatClampNeg 0)))] := hD; rw [xz] at h9; exact h9
      refine lv_aload_n hx hb dX5_writeTo_82 rfl (lv_at hl 3 rfl) ?_
      refine lv_iload_n hx hb dX5_writeTo_83 rfl (lv_at hl 0 rfl) ?_
      refine lv_iconst (v := 5) hx hb dX5_writeTo_84 (by decide) ?_
      refine lv_iadd hx hb dX5_writeTo_85 ?_
      refine lv_topi (fun f_18 ef_18 => ?_)
      obtain rfl : f_18 = (nI ((i_k_1 * 6) + 5)) := ef_18.trans (nI_add _ _)
      refine lv_aload_n hx hb dX5_writeTo_86 rfl (lv_at hl 2 rfl) ?_
      refine va_get (D := (dC, dI)) (ci := 10) (v := .ref a7) (C := RX5) (T := TX5) (N := 7) hx hb hts hin_X5 hown hK hP 0 rfl rfl 4 (by decide) (hts (.fieldLink RX5 24 "Nearestward$Ground" "speedYs" "[I") (by decide +kernel)) (fun _ h9 => h9) rfl dX5_writeTo_87 ?_
      refine lv_iload_n hx hb dX5_writeTo_90 rfl (lv_at hl 1 rfl) ?_
      refine va_iald hx hb hK hP 5 0 rfl rfl (vp_in_nI (by omega) (by decide)) dX5_writeTo_91 ?_
      refine lv_topi (fun f_19 ef_19 => ?_)
      obtain rfl : f_19 = 0 := ef_19
      refine va_iast hx hb hK hP hD hS 6 0 rfl rfl (vp_in_nI (by omega) (by decide)) dX5_writeTo_92 (fun H locs hP hD hS => ?_)
      have hP : va_P (dC, dI) vwCl [(a1, .inr (10, [.ref a3, .ref a4, .ref a5, .ref a6, .ref a7, .int 0, .int 0])), (a3, .inl (T 0, 12, .inl (fun _ => 0))), (a4, .inl (T 0, 12, .inl (fun _ => 0))), (a5, .inl (T 0, 12, .inl (fun _ => 0))), (a6, .inl (T 0, 12, .inl (fun _ => 0))), (a7, .inl (T 0, 12, .inl (fun _ => 0))), (a2, .inl (T 0, 72, .inl (fun _ => 0)))] H := by have h9 : va_P (dC, dI) vwCl [(a1, .inr (10, [.ref a3, .ref a4, .ref a5, .ref a6, .ref a7, .int 0, .int 0])), (a3, .inl (T 0, 12, .inl (fun _ => 0))), (a4, .inl (T 0, 12, .inl (fun _ => 0))), (a5, .inl (T 0, 12, .inl (fun _ => 0))), (a6, .inl (T 0, 12, .inl (fun _ => 0))), (a7, .inl (T 0, 12, .inl (fun _ => 0))), (a2, .inl (T 0, 72, .inl (upd (fun _ => 0) ((nI ((i_k_1 * 6) + 5)) : Int32).toNatClampNeg 0)))] H := hP; rw [xz] at h9; exact h9
      have hD : va_D A [(a1, .inr (10, [.ref a3, .ref a4, .ref a5, .ref a6, .ref a7, .int 0, .int 0])), (a3, .inl (T 0, 12, .inl (fun _ => 0))), (a4, .inl (T 0, 12, .inl (fun _ => 0))), (a5, .inl (T 0, 12, .inl (fun _ => 0))), (a6, .inl (T 0, 12, .inl (fun _ => 0))), (a7, .inl (T 0, 12, .inl (fun _ => 0))), (a2, .inl (T 0, 72, .inl (fun _ => 0)))] := by have h9 : va_D A [(a1, .inr (10, [.ref a3, .ref a4, .ref a5, .ref a6, .ref a7, .int 0, .int 0])), (a3, .inl (T 0, 12, .inl (fun _ => 0))), (a4, .inl (T 0, 12, .inl (fun _ => 0))), (a5, .inl (T 0, 12, .inl (fun _ => 0))), (a6, .inl (T 0, 12, .inl (fun _ => 0))), (a7, .inl (T 0, 12, .inl (fun _ => 0))), (a2, .inl (T 0, 72, .inl (upd (fun _ => 0) ((nI ((i_k_1 * 6) + 5)) : Int32).toNatClampNeg 0)))] := hD; rw [xz] at h9; exact h9
      refine lv_iinc (v := (nI (i_k_1 + 1))) (lv' := [(2, .int (nI (i_k_1 + 1))), (3, .int (nI (i_k_1 * 6))), (0, .ref a1), (1, .ref a2)]) hx hb dX5_writeTo_93 hl (k := 1) rfl (nI_1 _) (by decide) rfl (fun ls hl => ?_)
      refine lv_goto (tgt := 2) hx hb dX5_writeTo_96 (by decide) ?_
      exact ih_k_1 _ _ _ (by omega) ⟨hP, hD, hS, lv_sub hl [0, 2, 3] rfl⟩
set_option maxHeartbeats 4000000 in
set_option maxRecDepth 100000 in
theorem xcX6_keep (l : Launch) (hst : l.stackTraces = false) (dC : Nat → ClassId) (dI : Nat → Nat → Nat) (T : Nat → ClassId) (a1 : Nat) (a2 : Nat) (a3 : Nat) (a4 : Nat) (a5 : Nat) (a6 : Nat) (a7 : Nat) (a8 : Nat) (sz : Nat) (ra11 : Nat → Nat) : Met l yX6_keep wsX6_keep ({ frames := 3, cells := 0, slots := 0, locals := 65 } : Room) (va_Pc [.ref a1, .ref a2] (fun U => xB dC dI T [(a2, .inr (10, [.ref a3, .ref a4, .ref a5, .ref a6, .ref a7, .int 0, .int 0])), (a3, .inl (T 0, 12, .inl (fun _ => 0))), (a4, .inl (T 0, 12, .inl (fun _ => 0))), (a5, .inl (T 0, 12, .inl (fun _ => 0))), (a6, .inl (T 0, 12, .inl (fun _ => 0))), (a7, .inl (T 0, 12, .inl (fun _ => 0))), (a1, .inr (11, [.ref a8, .int 0, .int 0])), (a8, .inl (T 2, 20, .inr (.inr (.inr (.inr (fun i => if i < 20 then some (ra11 i) else none)))))), ((ra11 0), .inl (T 0, 72, .inl (fun _ => 0)))] sz U)) (va_Qv (fun _ : Unit => True) (fun (_ : Unit) (t : State) => xE dC dI [(a2, .inr (10, [.ref a3, .ref a4, .ref a5, .ref a6, .ref a7, .int 0, .int 0])), (a3, .inl (T 0, 12, .inl (fun _ => 0))), (a4, .inl (T 0, 12, .inl (fun _ => 0))), (a5, .inl (T 0, 12, .inl (fun _ => 0))), (a6, .inl (T 0, 12, .inl (fun _ => 0))), (a7, .inl (T 0, 12, .inl (fun _ => 0))), (a1, .inr (11, [.ref a8, .int 1, .int 1])), (a8, .inl (T 2, 20, .inr (.inr (.inr (.inr (fun i => if i < 20 then some (ra11 i) else none)))))), ((ra11 0), .inl (T 0, 72, .inl (fun _ => 0)))] (va_A [(a2, .inr (10, [.ref a3, .ref a4, .ref a5, .ref a6, .ref a7, .int 0, .int 0])), (a3, .inl (T 0, 12, .inl (fun _ => 0))), (a4, .inl (T 0, 12, .inl (fun _ => 0))), (a5, .inl (T 0, 12, .inl (fun _ => 0))), (a6, .inl (T 0, 12, .inl (fun _ => 0))), (a7, .inl (T 0, 12, .inl (fun _ => 0))), (a1, .inr (11, [.ref a8, .int 0, .int 0])), (a8, .inl (T 2, 20, .inr (.inr (.inr (.inr (fun i => if i < 20 then some (ra11 i) else none)))))), ((ra11 0), .inl (T 0, 72, .inl (fun _ => 0)))] sz) t) (va_A [(a2, .inr (10, [.ref a3, .ref a4, .ref a5, .ref a6, .ref a7, .int 0, .int 0])), (a3, .inl (T 0, 12, .inl (fun _ => 0))), (a4, .inl (T 0, 12, .inl (fun _ => 0))), (a5, .inl (T 0, 12, .inl (fun _ => 0))), (a6, .inl (T 0, 12, .inl (fun _ => 0))), (a7, .inl (T 0, 12, .inl (fun _ => 0))), (a1, .inr (11, [.ref a8, .int 0, .int 0])), (a8, .inl (T 2, 20, .inr (.inr (.inr (.inr (fun i => if i < 20 then some (ra11 i) else none)))))), ((ra11 0), .inl (T 0, 72, .inl (fun _ => 0)))] sz)) 0 0 (va_A [(a2, .inr (10, [.ref a3, .ref a4, .ref a5, .ref a6, .ref a7, .int 0, .int 0])), (a3, .inl (T 0, 12, .inl (fun _ => 0))), (a4, .inl (T 0, 12, .inl (fun _ => 0))), (a5, .inl (T 0, 12, .inl (fun _ => 0))), (a6, .inl (T 0, 12, .inl (fun _ => 0))), (a7, .inl (T 0, 12, .inl (fun _ => 0))), (a1, .inr (11, [.ref a8, .int 0, .int 0])), (a8, .inl (T 2, 20, .inr (.inr (.inr (.inr (fun i => if i < 20 then some (ra11 i) else none)))))), ((ra11 0), .inl (T 0, 72, .inl (fun _ => 0)))] sz) := by
  refine Met.ofW (cc := cX6_keep) (maxL := 2) (ret := none) (by decide +kernel) rfl ?_
  intro p e s m args below meth c s₁ B hml hv
  obtain ⟨rfl, hsz, hP, hK, hD0, hG⟩ := hv
  have hx := B.exec
  have hb := B.bytes
  have hr := B.returns
  have hts := atoms_spec (ws := wsX6_keep) B.pre
  have hown : s.vm.findClass RX6 = some m.cls := findClass_of_methodNamed B.named
  have hlocks := B.notSynchronized
  have hin_X6 : ∀ w ∈ wsX60, w ∈ wsX6_keep := by decide +kernel
  subst hsz
  have hD := hD0.self (sz := s.heap.size)
  generalize hAe : va_A [(a2, .inr (10, [.ref a3, .ref a4, .ref a5, .ref a6, .ref a7, .int 0, .int 0])), (a3, .inl (T 0, 12, .inl (fun _ => 0))), (a4, .inl (T 0, 12, .inl (fun _ => 0))), (a5, .inl (T 0, 12, .inl (fun _ => 0))), (a6, .inl (T 0, 12, .inl (fun _ => 0))), (a7, .inl (T 0, 12, .inl (fun _ => 0))), (a1, .inr (11, [.ref a8, .int 0, .int 0])), (a8, .inl (T 2, 20, .inr (.inr (.inr (.inr (fun i => if i < 20 then some (ra11 i) else none)))))), ((ra11 0), .inl (T 0, 72, .inl (fun _ => 0)))] s.heap.size = A at hD hG ⊢
  have hA : ∀ q : Nat, s.heap.size ≤ q → A q := fun q h => by rw [← hAe]; exact Or.inr h
  have hS : va_S A s.heap s.heap [] := va_S.rf
  have hl := lv_entry ([.ref a1, .ref a2]) (n := 2) (Nat.le_of_ble_eq_true rfl)
  rw [lg_entry_eq]
  generalize (lg_sl ([.ref a1, .ref a2]) ++ List.replicate (2 - (lg_sl ([.ref a1, .ref a2])).length) Slot.unset).toArray = ls at hl ⊢
  have hl : lv_has ls 2 [(0, .ref a1), (1, .ref a2)] := hl
  refine lv_aload_n hx hb dX6_keep_0 rfl (lv_at hl 1 rfl) ?_
  refine lv_aload_n hx hb dX6_keep_1 rfl (lv_at hl 0 rfl) ?_
  refine va_get (D := (dC, dI)) (ci := 11) (v := .ref a8) (C := RX6) (T := TX6) (N := 3) hx hb hts hin_X6 hown hK hP 6 rfl rfl 0 (by decide) (hts (.fieldLink RX6 13 "Nearestward$History" "rows" "[[I") (by decide +kernel)) (fun _ h9 => h9) rfl dX6_keep_2 ?_
  refine lv_aload_n hx hb dX6_keep_5 rfl (lv_at hl 0 rfl) ?_
  refine va_get (D := (dC, dI)) (ci := 11) (v := .int 0) (C := RX6) (T := TX6) (N := 3) hx hb hts hin_X6 hown hK hP 6 rfl rfl 1 (by decide) (hts (.fieldLink RX6 16 "Nearestward$History" "next" "I") (by decide +kernel)) (fun _ h9 => h9) rfl dX6_keep_6 ?_
  refine xAldq hx hb hK hP 7 2 rfl rfl (show vp_in 0 20 by unfold vp_in; decide) dX6_keep_9 ?_
  rw [show va_rf ((fun i => if i < 20 then some (ra11 i) else none) (0 : Int32).toNatClampNeg) = .ref (ra11 0) from by rw [show (0 : Int32).toNatClampNeg = 0 from rfl]; simp [va_rf, show 0 < 20 by omega]]
  have hPc := hP.sub (ws' := [(a2, .inr (10, [.ref a3, .ref a4, .ref a5, .ref a6, .ref a7, .int 0, .int 0])), (a3, .inl (T 0, 12, .inl (fun _ => 0))), (a4, .inl (T 0, 12, .inl (fun _ => 0))), (a5, .inl (T 0, 12, .inl (fun _ => 0))), (a6, .inl (T 0, 12, .inl (fun _ => 0))), (a7, .inl (T 0, 12, .inl (fun _ => 0))), ((ra11 0), .inl (T 0, 72, .inl (fun _ => 0)))]) [0, 1, 2, 3, 4, 5, 8] rfl
  have hDc := hD.sub (ws' := [(a2, .inr (10, [.ref a3, .ref a4, .ref a5, .ref a6, .ref a7, .int 0, .int 0])), (a3, .inl (T 0, 12, .inl (fun _ => 0))), (a4, .inl (T 0, 12, .inl (fun _ => 0))), (a5, .inl (T 0, 12, .inl (fun _ => 0))), (a6, .inl (T 0, 12, .inl (fun _ => 0))), (a7, .inl (T 0, 12, .inl (fun _ => 0))), ((ra11 0), .inl (T 0, 72, .inl (fun _ => 0)))]) [0, 1, 2, 3, 4, 5, 8] (by decide) rfl
  have hFc := va_free (wc := [(a2, .inr (10, [.ref a3, .ref a4, .ref a5, .ref a6, .ref a7, .int 0, .int 0])), (a3, .inl (T 0, 12, .inl (fun _ => 0))), (a4, .inl (T 0, 12, .inl (fun _ => 0))), (a5, .inl (T 0, 12, .inl (fun _ => 0))), (a6, .inl (T 0, 12, .inl (fun _ => 0))), (a7, .inl (T 0, 12, .inl (fun _ => 0))), ((ra11 0), .inl (T 0, 72, .inl (fun _ => 0)))]) hD hS hA [0, 1, 2, 3, 4, 5, 8] rfl
  refine va_callv (va_runV (As := [.ref (ra11 0)]) (rest := []) ⟨hx, hb, hml, hown, hts⟩ (xcX5_writeTo l hst dC dI T a2 (ra11 0) a3 a4 a5 a6 a7 s.heap.size) (cwV 1 hts gX6_keep_X5_writeTo rfl rfl rfl (by decide +kernel) ⟨Nat.le_of_ble_eq_true rfl, Nat.le_of_ble_eq_true rfl⟩) ⟨xBlind, va_recv hK hPc (ci := 10) (q0 := 0) rfl rfl, xCall hK hG hS hPc hDc hFc⟩ rfl rfl hl.1 rfl (lv_room (Nat.le_of_ble_eq_true rfl)) dX6_keep_10 ⟨Nat.le_of_ble_eq_true rfl, Nat.le_of_ble_eq_true rfl⟩) hS (fun q _ h => hFc q h) hFc (fun u t H locs ht hvm hw hB hz1 hk1 hS => ?_)
  rcases hB with ⟨hP1, hD1⟩
  rw [ht] at hP1
  obtain ⟨hP, hD⟩ := va_join (wr := [(a1, .inr (11, [.ref a8, .int 0, .int 0])), (a8, .inl (T 2, 20, .inr (.inr (.inr (.inr (fun i => if i < 20 then some (ra11 i) else none))))))]) (w1 := [(a2, .inr (10, [.ref a3, .ref a4, .ref a5, .ref a6, .ref a7, .int 0, .int 0])), (a3, .inl (T 0, 12, .inl (fun _ => 0))), (a4, .inl (T 0, 12, .inl (fun _ => 0))), (a5, .inl (T 0, 12, .inl (fun _ => 0))), (a6, .inl (T 0, 12, .inl (fun _ => 0))), (a7, .inl (T 0, 12, .inl (fun _ => 0))), ((ra11 0), .inl (T 0, 72, .inl (fun _ => 0)))]) hP hD [0, 1, 2, 3, 4, 5, 8] [6, 7] rfl rfl (by decide) (by decide) hk1 hFc hP1 hD1
  have hP := hP.sub (ws' := [(a2, .inr (10, [.ref a3, .ref a4, .ref a5, .ref a6, .ref a7, .int 0, .int 0])), (a3, .inl (T 0, 12, .inl (fun _ => 0))), (a4, .inl (T 0, 12, .inl (fun _ => 0))), (a5, .inl (T 0, 12, .inl (fun _ => 0))), (a6, .inl (T 0, 12, .inl (fun _ => 0))), (a7, .inl (T 0, 12, .inl (fun _ => 0))), (a1, .inr (11, [.ref a8, .int 0, .int 0])), (a8, .inl (T 2, 20, .inr (.inr (.inr (.inr (fun i => if i < 20 then some (ra11 i) else none)))))), ((ra11 0), .inl (T 0, 72, .inl (fun _ => 0)))]) [2, 3, 4, 5, 6, 7, 0, 1, 8] rfl
  have hD := hD.sub (ws' := [(a2, .inr (10, [.ref a3, .ref a4, .ref a5, .ref a6, .ref a7, .int 0, .int 0])), (a3, .inl (T 0, 12, .inl (fun _ => 0))), (a4, .inl (T 0, 12, .inl (fun _ => 0))), (a5, .inl (T 0, 12, .inl (fun _ => 0))), (a6, .inl (T 0, 12, .inl (fun _ => 0))), (a7, .inl (T 0, 12, .inl (fun _ => 0))), (a1, .inr (11, [.ref a8, .int 0, .int 0])), (a8, .inl (T 2, 20, .inr (.inr (.inr (.inr (fun i => if i < 20 then some (ra11 i) else none)))))), ((ra11 0), .inl (T 0, 72, .inl (fun _ => 0)))]) [2, 3, 4, 5, 6, 7, 0, 1, 8] (by decide) rfl
  clear hPc hDc hFc hP1 hD1 hk1 hz1 ht hvm
  refine lv_aload_n hx hb dX6_keep_13 rfl (lv_at hl 0 rfl) ?_
  refine lv_aload_n hx hb dX6_keep_14 rfl (lv_at hl 0 rfl) ?_
  refine va_get (D := (dC, dI)) (ci := 11) (v := .int 0) (C := RX6) (T := TX6) (N := 3) hx hb hts hin_X6 hown hK hP 6 rfl rfl 1 (by decide) (hts (.fieldLink RX6 16 "Nearestward$History" "next" "I") (by decide +kernel)) (fun _ h9 => h9) rfl dX6_keep_15 ?_
  refine lv_iconst (v := 1) hx hb dX6_keep_18 (by decide) ?_
  refine lv_iadd hx hb dX6_keep_19 ?_
  refine lv_topi (fun f_2 ef_2 => ?_)
  obtain rfl : f_2 = 1 := ef_2.trans (by decide)
  refine lv_bipush (v := 20) hx hb dX6_keep_20 (by decide) ?_
  refine lv_icmp_ge (tgt := 34) hx hb dX6_keep_22 (by decide) (fun c_3 => absurd c_3 (by decide)) (fun c_3 => ?_)
  refine lv_aload_n hx hb dX6_keep_25 rfl (lv_at hl 0 rfl) ?_
  refine va_get (D := (dC, dI)) (ci := 11) (v := .int 0) (C := RX6) (T := TX6) (N := 3) hx hb hts hin_X6 hown hK hP 6 rfl rfl 1 (by decide) (hts (.fieldLink RX6 16 "Nearestward$History" "next" "I") (by decide +kernel)) (fun _ h9 => h9) rfl dX6_keep_26 ?_
  refine lv_iconst (v := 1) hx hb dX6_keep_29 (by decide) ?_
  refine lv_iadd hx hb dX6_keep_30 ?_
  refine lv_topi (fun f_4 ef_4 => ?_)
  obtain rfl : f_4 = 1 := ef_4.trans (by decide)
  refine lv_goto (tgt := 35) hx hb dX6_keep_31 (by decide) ?_
  refine va_put (D := (dC, dI)) (ci := 11) (v := .int 1) (ty := .int) (C := RX6) (T := TX6) (N := 3) hx hb hts hin_X6 tyX6 tyX6_ok nmX6 hown hK hP hD hS 6 rfl rfl 1 (by decide) (hts (.fieldLink RX6 16 "Nearestward$History" "next" "I") (by decide +kernel)) (fun _ h9 => h9) rfl (by decide +kernel) rfl rfl (Nat.le_of_ble_eq_true rfl) dX6_keep_35 (fun H locs hP hD hS => ?_)
  have hP : va_P (dC, dI) vwCl [(a2, .inr (10, [.ref a3, .ref a4, .ref a5, .ref a6, .ref a7, .int 0, .int 0])), (a3, .inl (T 0, 12, .inl (fun _ => 0))), (a4, .inl (T 0, 12, .inl (fun _ => 0))), (a5, .inl (T 0, 12, .inl (fun _ => 0))), (a6, .inl (T 0, 12, .inl (fun _ => 0))), (a7, .inl (T 0, 12, .inl (fun _ => 0))), (a1, .inr (11, [.ref a8, .int 1, .int 0])), (a8, .inl (T 2, 20, .inr (.inr (.inr (.inr (fun i => if i < 20 then some (ra11 i) else none)))))), ((ra11 0), .inl (T 0, 72, .inl (fun _ => 0)))] H := hP
  have hD : va_D A [(a2, .inr (10, [.ref a3, .ref a4, .ref a5, .ref a6, .ref a7, .int 0, .int 0])), (a3, .inl (T 0, 12, .inl (fun _ => 0))), (a4, .inl (T 0, 12, .inl (fun _ => 0))), (a5, .inl (T 0, 12, .inl (fun _ => 0))), (a6, .inl (T 0, 12, .inl (fun _ => 0))), (a7, .inl (T 0, 12, .inl (fun _ => 0))), (a1, .inr (11, [.ref a8, .int 1, .int 0])), (a8, .inl (T 2, 20, .inr (.inr (.inr (.inr (fun i => if i < 20 then some (ra11 i) else none)))))), ((ra11 0), .inl (T 0, 72, .inl (fun _ => 0)))] := hD
  refine lv_aload_n hx hb dX6_keep_38 rfl (lv_at hl 0 rfl) ?_
  refine lv_aload_n hx hb dX6_keep_39 rfl (lv_at hl 0 rfl) ?_
  refine va_get (D := (dC, dI)) (ci := 11) (v := .int 0) (C := RX6) (T := TX6) (N := 3) hx hb hts hin_X6 hown hK hP 6 rfl rfl 2 (by decide) (hts (.fieldLink RX6 26 "Nearestward$History" "count" "I") (by decide +kernel)) (fun _ h9 => h9) rfl dX6_keep_40 ?_
  refine lv_iconst (v := 1) hx hb dX6_keep_43 (by decide) ?_
  refine lv_iadd hx hb dX6_keep_44 ?_
  refine lv_topi (fun f_5 ef_5 => ?_)
  obtain rfl : f_5 = 1 := ef_5.trans (by decide)
  refine lv_bipush (v := 20) hx hb dX6_keep_45 (by decide) ?_
  refine va_mmin hx hb (by rw [hml]; exact hl.1.symm) hown (hts (.methodLink RX6 29 Lib.Math.min.name) (by decide +kernel)) (hts (.static Lib.Math.min.name) (by decide +kernel)) (hts (.initialized "java/lang/Math") (by decide +kernel)) (hts (.code Lib.Math.min.name Lib.Math.min.code 2 (some .int)) (by decide +kernel)) (Nat.le_of_ble_eq_true rfl) (Nat.le_of_ble_eq_true rfl) (Nat.le_of_ble_eq_true rfl) (Nat.le_of_ble_eq_true rfl) dX6_keep_47 ?_
  refine lv_topi (fun f_6 ef_6 => ?_)
  obtain rfl : f_6 = 1 := ef_6.trans (by decide)
  refine va_put (D := (dC, dI)) (ci := 11) (v := .int 1) (ty := .int) (C := RX6) (T := TX6) (N := 3) hx hb hts hin_X6 tyX6 tyX6_ok nmX6 hown hK hP hD hS 6 rfl rfl 2 (by decide) (hts (.fieldLink RX6 26 "Nearestward$History" "count" "I") (by decide +kernel)) (fun _ h9 => h9) rfl (by decide +kernel) rfl rfl (Nat.le_of_ble_eq_true rfl) dX6_keep_50 (fun H locs hP hD hS => ?_)
  have hP : va_P (dC, dI) vwCl [(a2, .inr (10, [.ref a3, .ref a4, .ref a5, .ref a6, .ref a7, .int 0, .int 0])), (a3, .inl (T 0, 12, .inl (fun _ => 0))), (a4, .inl (T 0, 12, .inl (fun _ => 0))), (a5, .inl (T 0, 12, .inl (fun _ => 0))), (a6, .inl (T 0, 12, .inl (fun _ => 0))), (a7, .inl (T 0, 12, .inl (fun _ => 0))), (a1, .inr (11, [.ref a8, .int 1, .int 1])), (a8, .inl (T 2, 20, .inr (.inr (.inr (.inr (fun i => if i < 20 then some (ra11 i) else none)))))), ((ra11 0), .inl (T 0, 72, .inl (fun _ => 0)))] H := hP
  have hD : va_D A [(a2, .inr (10, [.ref a3, .ref a4, .ref a5, .ref a6, .ref a7, .int 0, .int 0])), (a3, .inl (T 0, 12, .inl (fun _ => 0))), (a4, .inl (T 0, 12, .inl (fun _ => 0))), (a5, .inl (T 0, 12, .inl (fun _ => 0))), (a6, .inl (T 0, 12, .inl (fun _ => 0))), (a7, .inl (T 0, 12, .inl (fun _ => 0))), (a1, .inr (11, [.ref a8, .int 1, .int 1])), (a8, .inl (T 2, 20, .inr (.inr (.inr (.inr (fun i => if i < 20 then some (ra11 i) else none)))))), ((ra11 0), .inl (T 0, 72, .inl (fun _ => 0)))] := hD
  have hP9 := hP.sub (ws' := [(a2, .inr (10, [.ref a3, .ref a4, .ref a5, .ref a6, .ref a7, .int 0, .int 0])), (a3, .inl (T 0, 12, .inl (fun _ => 0))), (a4, .inl (T 0, 12, .inl (fun _ => 0))), (a5, .inl (T 0, 12, .inl (fun _ => 0))), (a6, .inl (T 0, 12, .inl (fun _ => 0))), (a7, .inl (T 0, 12, .inl (fun _ => 0))), (a1, .inr (11, [.ref a8, .int 1, .int 1])), (a8, .inl (T 2, 20, .inr (.inr (.inr (.inr (fun i => if i < 20 then some (ra11 i) else none)))))), ((ra11 0), .inl (T 0, 72, .inl (fun _ => 0)))]) [0, 1, 2, 3, 4, 5, 6, 7, 8] rfl
  have hD9 := hD.sub (ws' := [(a2, .inr (10, [.ref a3, .ref a4, .ref a5, .ref a6, .ref a7, .int 0, .int 0])), (a3, .inl (T 0, 12, .inl (fun _ => 0))), (a4, .inl (T 0, 12, .inl (fun _ => 0))), (a5, .inl (T 0, 12, .inl (fun _ => 0))), (a6, .inl (T 0, 12, .inl (fun _ => 0))), (a7, .inl (T 0, 12, .inl (fun _ => 0))), (a1, .inr (11, [.ref a8, .int 1, .int 1])), (a8, .inl (T 2, 20, .inr (.inr (.inr (.inr (fun i => if i < 20 then some (ra11 i) else none)))))), ((ra11 0), .inl (T 0, 72, .inl (fun _ => 0)))]) [0, 1, 2, 3, 4, 5, 6, 7, 8] (by decide) rfl
  exact W.vret hx hb hr (fun t ht hW => ⟨⟨(), rfl, trivial, ⟨by rw [ht]; exact hP9, hD9⟩⟩, hS.F ht⟩) hS.2.2 dX6_keep_53
set_option maxHeartbeats 4000000 in
set_option maxRecDepth 100000 in
theorem xcX5_setPlace (l : Launch) (hst : l.stackTraces = false) (dC : Nat → ClassId) (dI : Nat → Nat → Nat) (T : Nat → ClassId) (a1 : Nat) (a2 : Nat) (a3 : Nat) (a4 : Nat) (a5 : Nat) (a6 : Nat) (sz : Nat) (p2 : Int32) (p3 : Int32) : Met l yX5_setPlace wsX5_setPlace ({ frames := 0, cells := 0, slots := 0, locals := 0 } : Room) (va_Pc [.ref a1, .int 0, .int p2, .int p3] (fun U => xB dC dI T [(a1, .inr (10, [.ref a2, .ref a3, .ref a4, .ref a5, .ref a6, .int 1, .int 0])), (a2, .inl (T 0, 12, .inl (fun _ => 0))), (a3, .inl (T 0, 12, .inl (fun _ => 0)))] sz U)) (va_Qv (fun _ : Unit => True) (fun (_ : Unit) (t : State) => xE dC dI [(a1, .inr (10, [.ref a2, .ref a3, .ref a4, .ref a5, .ref a6, .int 1, .int 1])), (a2, .inl (T 0, 12, .inl (upd (fun _ => 0) (0 : Int32).toNatClampNeg p2))), (a3, .inl (T 0, 12, .inl (upd (fun _ => 0) (0 : Int32).toNatClampNeg p3)))] (va_A [(a1, .inr (10, [.ref a2, .ref a3, .ref a4, .ref a5, .ref a6, .int 1, .int 0])), (a2, .inl (T 0, 12, .inl (fun _ => 0))), (a3, .inl (T 0, 12, .inl (fun _ => 0)))] sz) t) (va_A [(a1, .inr (10, [.ref a2, .ref a3, .ref a4, .ref a5, .ref a6, .int 1, .int 0])), (a2, .inl (T 0, 12, .inl (fun _ => 0))), (a3, .inl (T 0, 12, .inl (fun _ => 0)))] sz)) 0 0 (va_A [(a1, .inr (10, [.ref a2, .ref a3, .ref a4, .ref a5, .ref a6, .int 1, .int 0])), (a2, .inl (T 0, 12, .inl (fun _ => 0))), (a3, .inl (T 0, 12, .inl (fun _ => 0)))] sz) := by
  refine Met.ofW (cc := cX5_setPlace) (maxL := 4) (ret := none) (by decide +kernel) rfl ?_
  intro p e s m args below meth c s₁ B hml hv
  obtain ⟨rfl, hsz, hP, hK, hD0, hG⟩ := hv
  have hx := B.exec
  have hb := B.bytes
  have hr := B.returns
  have hts := atoms_spec (ws := wsX5_setPlace) B.pre
  have hown : s.vm.findClass RX5 = some m.cls := findClass_of_methodNamed B.named
  have hlocks := B.notSynchronized
  have hin_X5 : ∀ w ∈ wsX50, w ∈ wsX5_setPlace := by decide +kernel
  subst hsz
  have hD := hD0.self (sz := s.heap.size)
  generalize hAe : va_A [(a1, .inr (10, [.ref a2, .ref a3, .ref a4, .ref a5, .ref a6, .int 1, .int 0])), (a2, .inl (T 0, 12, .inl (fun _ => 0))), (a3, .inl (T 0, 12, .inl (fun _ => 0)))] s.heap.size = A at hD hG ⊢
  have hA : ∀ q : Nat, s.heap.size ≤ q → A q := fun q h => by rw [← hAe]; exact Or.inr h
  have hS : va_S A s.heap s.heap [] := va_S.rf
  have hl := lv_entry ([.ref a1, .int 0, .int p2, .int p3]) (n := 4) (Nat.le_of_ble_eq_true rfl)
  rw [lg_entry_eq]
  generalize (lg_sl ([.ref a1, .int 0, .int p2, .int p3]) ++ List.replicate (4 - (lg_sl ([.ref a1, .int 0, .int p2, .int p3])).length) Slot.unset).toArray = ls at hl ⊢
  have hl : lv_has ls 4 [(0, .ref a1), (1, .int 0), (2, .int p2), (3, .int p3)] := hl
  refine lv_aload_n hx hb dX5_setPlace_0 rfl (lv_at hl 0 rfl) ?_
  refine va_get (D := (dC, dI)) (ci := 10) (v := .ref a2) (C := RX5) (T := TX5) (N := 7) hx hb hts hin_X5 hown hK hP 0 rfl rfl 0 (by decide) (hts (.fieldLink RX5 9 "Nearestward$Ground" "xs" "[I") (by decide +kernel)) (fun _ h9 => h9) rfl dX5_setPlace_1 ?_
  refine lv_iload_n hx hb dX5_setPlace_4 rfl (lv_at hl 1 rfl) ?_
  refine lv_iload_n hx hb dX5_setPlace_5 rfl (lv_at hl 2 rfl) ?_
  refine va_iast hx hb hK hP hD hS 1 0 rfl rfl (show vp_in 0 12 by unfold vp_in; decide) dX5_setPlace_6 (fun H locs hP hD hS => ?_)
  have hP : va_P (dC, dI) vwCl [(a1, .inr (10, [.ref a2, .ref a3, .ref a4, .ref a5, .ref a6, .int 1, .int 0])), (a2, .inl (T 0, 12, .inl (upd (fun _ => 0) (0 : Int32).toNatClampNeg p2))), (a3, .inl (T 0, 12, .inl (fun _ => 0)))] H := hP
  have hD : va_D A [(a1, .inr (10, [.ref a2, .ref a3, .ref a4, .ref a5, .ref a6, .int 1, .int 0])), (a2, .inl (T 0, 12, .inl (upd (fun _ => 0) (0 : Int32).toNatClampNeg p2))), (a3, .inl (T 0, 12, .inl (fun _ => 0)))] := hD
  refine lv_aload_n hx hb dX5_setPlace_7 rfl (lv_at hl 0 rfl) ?_
  refine va_get (D := (dC, dI)) (ci := 10) (v := .ref a3) (C := RX5) (T := TX5) (N := 7) hx hb hts hin_X5 hown hK hP 0 rfl rfl 1 (by decide) (hts (.fieldLink RX5 15 "Nearestward$Ground" "ys" "[I") (by decide +kernel)) (fun _ h9 => h9) rfl dX5_setPlace_8 ?_
  refine lv_iload_n hx hb dX5_setPlace_11 rfl (lv_at hl 1 rfl) ?_
  refine lv_iload_n hx hb dX5_setPlace_12 rfl (lv_at hl 3 rfl) ?_
  refine va_iast hx hb hK hP hD hS 2 0 rfl rfl (show vp_in 0 12 by unfold vp_in; decide) dX5_setPlace_13 (fun H locs hP hD hS => ?_)
  have hP : va_P (dC, dI) vwCl [(a1, .inr (10, [.ref a2, .ref a3, .ref a4, .ref a5, .ref a6, .int 1, .int 0])), (a2, .inl (T 0, 12, .inl (upd (fun _ => 0) (0 : Int32).toNatClampNeg p2))), (a3, .inl (T 0, 12, .inl (upd (fun _ => 0) (0 : Int32).toNatClampNeg p3)))] H := hP
  have hD : va_D A [(a1, .inr (10, [.ref a2, .ref a3, .ref a4, .ref a5, .ref a6, .int 1, .int 0])), (a2, .inl (T 0, 12, .inl (upd (fun _ => 0) (0 : Int32).toNatClampNeg p2))), (a3, .inl (T 0, 12, .inl (upd (fun _ => 0) (0 : Int32).toNatClampNeg p3)))] := hD
  refine lv_aload_n hx hb dX5_setPlace_14 rfl (lv_at hl 0 rfl) ?_
  refine lv_dup hx hb dX5_setPlace_15 rfl ?_
  refine va_get (D := (dC, dI)) (ci := 10) (v := .int 0) (C := RX5) (T := TX5) (N := 7) hx hb hts hin_X5 hown hK hP 0 rfl rfl 6 (by decide) (hts (.fieldLink RX5 49 "Nearestward$Ground" "changes" "I") (by decide +kernel)) (fun _ h9 => h9) rfl dX5_setPlace_16 ?_
  refine lv_iconst (v := 1) hx hb dX5_setPlace_19 (by decide) ?_
  refine lv_iadd hx hb dX5_setPlace_20 ?_
  refine lv_topi (fun f_1 ef_1 => ?_)
  obtain rfl : f_1 = 1 := ef_1.trans (by decide)
  refine va_put (D := (dC, dI)) (ci := 10) (v := .int 1) (ty := .int) (C := RX5) (T := TX5) (N := 7) hx hb hts hin_X5 tyX5 tyX5_ok nmX5 hown hK hP hD hS 0 rfl rfl 6 (by decide) (hts (.fieldLink RX5 49 "Nearestward$Ground" "changes" "I") (by decide +kernel)) (fun _ h9 => h9) rfl (by decide +kernel) rfl rfl (Nat.le_of_ble_eq_true rfl) dX5_setPlace_21 (fun H locs hP hD hS => ?_)
  have hP : va_P (dC, dI) vwCl [(a1, .inr (10, [.ref a2, .ref a3, .ref a4, .ref a5, .ref a6, .int 1, .int 1])), (a2, .inl (T 0, 12, .inl (upd (fun _ => 0) (0 : Int32).toNatClampNeg p2))), (a3, .inl (T 0, 12, .inl (upd (fun _ => 0) (0 : Int32).toNatClampNeg p3)))] H := hP
  have hD : va_D A [(a1, .inr (10, [.ref a2, .ref a3, .ref a4, .ref a5, .ref a6, .int 1, .int 1])), (a2, .inl (T 0, 12, .inl (upd (fun _ => 0) (0 : Int32).toNatClampNeg p2))), (a3, .inl (T 0, 12, .inl (upd (fun _ => 0) (0 : Int32).toNatClampNeg p3)))] := hD
  have hP9 := hP.sub (ws' := [(a1, .inr (10, [.ref a2, .ref a3, .ref a4, .ref a5, .ref a6, .int 1, .int 1])), (a2, .inl (T 0, 12, .inl (upd (fun _ => 0) (0 : Int32).toNatClampNeg p2))), (a3, .inl (T 0, 12, .inl (upd (fun _ => 0) (0 : Int32).toNatClampNeg p3)))]) [0, 1, 2] rfl
  have hD9 := hD.sub (ws' := [(a1, .inr (10, [.ref a2, .ref a3, .ref a4, .ref a5, .ref a6, .int 1, .int 1])), (a2, .inl (T 0, 12, .inl (upd (fun _ => 0) (0 : Int32).toNatClampNeg p2))), (a3, .inl (T 0, 12, .inl (upd (fun _ => 0) (0 : Int32).toNatClampNeg p3)))]) [0, 1, 2] (by decide) rfl
  exact W.vret hx hb hr (fun t ht hW => ⟨⟨(), rfl, trivial, ⟨by rw [ht]; exact hP9, hD9⟩⟩, hS.F ht⟩) hS.2.2 dX5_setPlace_24
set_option maxHeartbeats 4000000 in
set_option maxRecDepth 100000 in
theorem xcX5_put (l : Launch) (hst : l.stackTraces = false) (dC : Nat → ClassId) (dI : Nat → Nat → Nat) (T : Nat → ClassId) (a1 : Nat) (a2 : Nat) (a3 : Nat) (a4 : Nat) (a5 : Nat) (a6 : Nat) (sz : Nat) (p2 : Int32) (p3 : Int32) : Met l yX5_put wsX5_put ({ frames := 1, cells := 0, slots := 0, locals := 23 } : Room) (va_Pc [.ref a1, .int 0, .int p2, .int p3] (fun U => xB dC dI T [(a1, .inr (10, [.ref a2, .ref a3, .ref a4, .ref a5, .ref a6, .int 0, .int 0])), (a2, .inl (T 0, 12, .inl (fun _ => 0))), (a3, .inl (T 0, 12, .inl (fun _ => 0))), (a4, .inl (T 0, 12, .inl (fun _ => 0))), (a5, .inl (T 0, 12, .inl (fun _ => 0))), (a6, .inl (T 0, 12, .inl (fun _ => 0)))] sz U)) (va_Qv (fun _ : Unit => True) (fun (_ : Unit) (t : State) => xE dC dI [(a1, .inr (10, [.ref a2, .ref a3, .ref a4, .ref a5, .ref a6, .int 1, .int 1])), (a2, .inl (T 0, 12, .inl (upd (fun _ => 0) (0 : Int32).toNatClampNeg p2))), (a3, .inl (T 0, 12, .inl (upd (fun _ => 0) (0 : Int32).toNatClampNeg p3))), (a4, .inl (T 0, 12, .inl (fun _ => 0))), (a5, .inl (T 0, 12, .inl (fun _ => 0))), (a6, .inl (T 0, 12, .inl (fun _ => 0)))] (va_A [(a1, .inr (10, [.ref a2, .ref a3, .ref a4, .ref a5, .ref a6, .int 0, .int 0])), (a2, .inl (T 0, 12, .inl (fun _ => 0))), (a3, .inl (T 0, 12, .inl (fun _ => 0))), (a4, .inl (T 0, 12, .inl (fun _ => 0))), (a5, .inl (T 0, 12, .inl (fun _ => 0))), (a6, .inl (T 0, 12, .inl (fun _ => 0)))] sz) t) (va_A [(a1, .inr (10, [.ref a2, .ref a3, .ref a4, .ref a5, .ref a6, .int 0, .int 0])), (a2, .inl (T 0, 12, .inl (fun _ => 0))), (a3, .inl (T 0, 12, .inl (fun _ => 0))), (a4, .inl (T 0, 12, .inl (fun _ => 0))), (a5, .inl (T 0, 12, .inl (fun _ => 0))), (a6, .inl (T 0, 12, .inl (fun _ => 0)))] sz)) 0 0 (va_A [(a1, .inr (10, [.ref a2, .ref a3, .ref a4, .ref a5, .ref a6, .int 0, .int 0])), (a2, .inl (T 0, 12, .inl (fun _ => 0))), (a3, .inl (T 0, 12, .inl (fun _ => 0))), (a4, .inl (T 0, 12, .inl (fun _ => 0))), (a5, .inl (T 0, 12, .inl (fun _ => 0))), (a6, .inl (T 0, 12, .inl (fun _ => 0)))] sz) := by
  refine Met.ofW (cc := cX5_put) (maxL := 4) (ret := none) (by decide +kernel) rfl ?_
  intro p e s m args below meth c s₁ B hml hv
  obtain ⟨rfl, hsz, hP, hK, hD0, hG⟩ := hv
  have hx := B.exec
  have hb := B.bytes
  have hr := B.returns
  have hts := atoms_spec (ws := wsX5_put) B.pre
  have hown : s.vm.findClass RX5 = some m.cls := findClass_of_methodNamed B.named
  have hlocks := B.notSynchronized
  have hin_X5 : ∀ w ∈ wsX50, w ∈ wsX5_put := by decide +kernel
  subst hsz
  have hD := hD0.self (sz := s.heap.size)
  generalize hAe : va_A [(a1, .inr (10, [.ref a2, .ref a3, .ref a4, .ref a5, .ref a6, .int 0, .int 0])), (a2, .inl (T 0, 12, .inl (fun _ => 0))), (a3, .inl (T 0, 12, .inl (fun _ => 0))), (a4, .inl (T 0, 12, .inl (fun _ => 0))), (a5, .inl (T 0, 12, .inl (fun _ => 0))), (a6, .inl (T 0, 12, .inl (fun _ => 0)))] s.heap.size = A at hD hG ⊢
  have hA : ∀ q : Nat, s.heap.size ≤ q → A q := fun q h => by rw [← hAe]; exact Or.inr h
  have hS : va_S A s.heap s.heap [] := va_S.rf
  have hl := lv_entry ([.ref a1, .int 0, .int p2, .int p3]) (n := 4) (Nat.le_of_ble_eq_true rfl)
  rw [lg_entry_eq]
  generalize (lg_sl ([.ref a1, .int 0, .int p2, .int p3]) ++ List.replicate (4 - (lg_sl ([.ref a1, .int 0, .int p2, .int p3])).length) Slot.unset).toArray = ls at hl ⊢
  have hl : lv_has ls 4 [(0, .ref a1), (1, .int 0), (2, .int p2), (3, .int p3)] := hl
  refine lv_aload_n hx hb dX5_put_0 rfl (lv_at hl 0 rfl) ?_
  refine lv_dup hx hb dX5_put_1 rfl ?_
  refine va_get (D := (dC, dI)) (ci := 10) (v := .int 0) (C := RX5) (T := TX5) (N := 7) hx hb hts hin_X5 hown hK hP 0 rfl rfl 5 (by decide) (hts (.fieldLink RX5 27 "Nearestward$Ground" "there" "I") (by decide +kernel)) (fun _ h9 => h9) rfl dX5_put_2 ?_
  refine lv_iconst (v := 1) hx hb dX5_put_5 (by decide) ?_
  refine lv_iload_n hx hb dX5_put_6 rfl (lv_at hl 1 rfl) ?_
  refine lv_ishl hx hb dX5_put_7 ?_
  refine lv_topi (fun f_1 ef_1 => ?_)
  obtain rfl : f_1 = 1 := ef_1.trans (by decide)
  refine lv_ior hx hb dX5_put_8 ?_
  refine lv_topi (fun f_2 ef_2 => ?_)
  obtain rfl : f_2 = 1 := ef_2.trans (by decide)
  refine va_put (D := (dC, dI)) (ci := 10) (v := .int 1) (ty := .int) (C := RX5) (T := TX5) (N := 7) hx hb hts hin_X5 tyX5 tyX5_ok nmX5 hown hK hP hD hS 0 rfl rfl 5 (by decide) (hts (.fieldLink RX5 27 "Nearestward$Ground" "there" "I") (by decide +kernel)) (fun _ h9 => h9) rfl (by decide +kernel) rfl rfl (Nat.le_of_ble_eq_true rfl) dX5_put_9 (fun H locs hP hD hS => ?_)
  have hP : va_P (dC, dI) vwCl [(a1, .inr (10, [.ref a2, .ref a3, .ref a4, .ref a5, .ref a6, .int 1, .int 0])), (a2, .inl (T 0, 12, .inl (fun _ => 0))), (a3, .inl (T 0, 12, .inl (fun _ => 0))), (a4, .inl (T 0, 12, .inl (fun _ => 0))), (a5, .inl (T 0, 12, .inl (fun _ => 0))), (a6, .inl (T 0, 12, .inl (fun _ => 0)))] H := hP
  have hD : va_D A [(a1, .inr (10, [.ref a2, .ref a3, .ref a4, .ref a5, .ref a6, .int 1, .int 0])), (a2, .inl (T 0, 12, .inl (fun _ => 0))), (a3, .inl (T 0, 12, .inl (fun _ => 0))), (a4, .inl (T 0, 12, .inl (fun _ => 0))), (a5, .inl (T 0, 12, .inl (fun _ => 0))), (a6, .inl (T 0, 12, .inl (fun _ => 0)))] := hD
  refine lv_aload_n hx hb dX5_put_12 rfl (lv_at hl 0 rfl) ?_
  refine va_get (D := (dC, dI)) (ci := 10) (v := .ref a4) (C := RX5) (T := TX5) (N := 7) hx hb hts hin_X5 hown hK hP 0 rfl rfl 2 (by decide) (hts (.fieldLink RX5 18 "Nearestward$Ground" "weights" "[I") (by decide +kernel)) (fun _ h9 => h9) rfl dX5_put_13 ?_
  refine lv_iload_n hx hb dX5_put_16 rfl (lv_at hl 1 rfl) ?_
  refine lv_iconst (v := 0) hx hb dX5_put_17 (by decide) ?_
  refine va_iast hx hb hK hP hD hS 3 0 rfl rfl (show vp_in 0 12 by unfold vp_in; decide) dX5_put_18 (fun H locs hP hD hS => ?_)
  have hP : va_P (dC, dI) vwCl [(a1, .inr (10, [.ref a2, .ref a3, .ref a4, .ref a5, .ref a6, .int 1, .int 0])), (a2, .inl (T 0, 12, .inl (fun _ => 0))), (a3, .inl (T 0, 12, .inl (fun _ => 0))), (a4, .inl (T 0, 12, .inl (fun _ => 0))), (a5, .inl (T 0, 12, .inl (fun _ => 0))), (a6, .inl (T 0, 12, .inl (fun _ => 0)))] H := by have h9 : va_P (dC, dI) vwCl [(a1, .inr (10, [.ref a2, .ref a3, .ref a4, .ref a5, .ref a6, .int 1, .int 0])), (a2, .inl (T 0, 12, .inl (fun _ => 0))), (a3, .inl (T 0, 12, .inl (fun _ => 0))), (a4, .inl (T 0, 12, .inl (upd (fun _ => 0) (0 : Int32).toNatClampNeg 0))), (a5, .inl (T 0, 12, .inl (fun _ => 0))), (a6, .inl (T 0, 12, .inl (fun _ => 0)))] H := hP; rw [xz] at h9; exact h9
  have hD : va_D A [(a1, .inr (10, [.ref a2, .ref a3, .ref a4, .ref a5, .ref a6, .int 1, .int 0])), (a2, .inl (T 0, 12, .inl (fun _ => 0))), (a3, .inl (T 0, 12, .inl (fun _ => 0))), (a4, .inl (T 0, 12, .inl (fun _ => 0))), (a5, .inl (T 0, 12, .inl (fun _ => 0))), (a6, .inl (T 0, 12, .inl (fun _ => 0)))] := by have h9 : va_D A [(a1, .inr (10, [.ref a2, .ref a3, .ref a4, .ref a5, .ref a6, .int 1, .int 0])), (a2, .inl (T 0, 12, .inl (fun _ => 0))), (a3, .inl (T 0, 12, .inl (fun _ => 0))), (a4, .inl (T 0, 12, .inl (upd (fun _ => 0) (0 : Int32).toNatClampNeg 0))), (a5, .inl (T 0, 12, .inl (fun _ => 0))), (a6, .inl (T 0, 12, .inl (fun _ => 0)))] := hD; rw [xz] at h9; exact h9
  refine lv_aload_n hx hb dX5_put_19 rfl (lv_at hl 0 rfl) ?_
  refine va_get (D := (dC, dI)) (ci := 10) (v := .ref a5) (C := RX5) (T := TX5) (N := 7) hx hb hts hin_X5 hown hK hP 0 rfl rfl 3 (by decide) (hts (.fieldLink RX5 21 "Nearestward$Ground" "speedXs" "[I") (by decide +kernel)) (fun _ h9 => h9) rfl dX5_put_20 ?_
  refine lv_iload_n hx hb dX5_put_23 rfl (lv_at hl 1 rfl) ?_
  refine lv_iconst (v := 0) hx hb dX5_put_24 (by decide) ?_
  refine va_iast hx hb hK hP hD hS 4 0 rfl rfl (show vp_in 0 12 by unfold vp_in; decide) dX5_put_25 (fun H locs hP hD hS => ?_)
  have hP : va_P (dC, dI) vwCl [(a1, .inr (10, [.ref a2, .ref a3, .ref a4, .ref a5, .ref a6, .int 1, .int 0])), (a2, .inl (T 0, 12, .inl (fun _ => 0))), (a3, .inl (T 0, 12, .inl (fun _ => 0))), (a4, .inl (T 0, 12, .inl (fun _ => 0))), (a5, .inl (T 0, 12, .inl (fun _ => 0))), (a6, .inl (T 0, 12, .inl (fun _ => 0)))] H := by have h9 : va_P (dC, dI) vwCl [(a1, .inr (10, [.ref a2, .ref a3, .ref a4, .ref a5, .ref a6, .int 1, .int 0])), (a2, .inl (T 0, 12, .inl (fun _ => 0))), (a3, .inl (T 0, 12, .inl (fun _ => 0))), (a4, .inl (T 0, 12, .inl (fun _ => 0))), (a5, .inl (T 0, 12, .inl (upd (fun _ => 0) (0 : Int32).toNatClampNeg 0))), (a6, .inl (T 0, 12, .inl (fun _ => 0)))] H := hP; rw [xz] at h9; exact h9
  have hD : va_D A [(a1, .inr (10, [.ref a2, .ref a3, .ref a4, .ref a5, .ref a6, .int 1, .int 0])), (a2, .inl (T 0, 12, .inl (fun _ => 0))), (a3, .inl (T 0, 12, .inl (fun _ => 0))), (a4, .inl (T 0, 12, .inl (fun _ => 0))), (a5, .inl (T 0, 12, .inl (fun _ => 0))), (a6, .inl (T 0, 12, .inl (fun _ => 0)))] := by have h9 : va_D A [(a1, .inr (10, [.ref a2, .ref a3, .ref a4, .ref a5, .ref a6, .int 1, .int 0])), (a2, .inl (T 0, 12, .inl (fun _ => 0))), (a3, .inl (T 0, 12, .inl (fun _ => 0))), (a4, .inl (T 0, 12, .inl (fun _ => 0))), (a5, .inl (T 0, 12, .inl (upd (fun _ => 0) (0 : Int32).toNatClampNeg 0))), (a6, .inl (T 0, 12, .inl (fun _ => 0)))] := hD; rw [xz] at h9; exact h9
  refine lv_aload_n hx hb dX5_put_26 rfl (lv_at hl 0 rfl) ?_
  refine va_get (D := (dC, dI)) (ci := 10) (v := .ref a6) (C := RX5) (T := TX5) (N := 7) hx hb hts hin_X5 hown hK hP 0 rfl rfl 4 (by decide) (hts (.fieldLink RX5 24 "Nearestward$Ground" "speedYs" "[I") (by decide +kernel)) (fun _ h9 => h9) rfl dX5_put_27 ?_
  refine lv_iload_n hx hb dX5_put_30 rfl (lv_at hl 1 rfl) ?_
  refine lv_iconst (v := 0) hx hb dX5_put_31 (by decide) ?_
  refine va_iast hx hb hK hP hD hS 5 0 rfl rfl (show vp_in 0 12 by unfold vp_in; decide) dX5_put_32 (fun H locs hP hD hS => ?_)
  have hP : va_P (dC, dI) vwCl [(a1, .inr (10, [.ref a2, .ref a3, .ref a4, .ref a5, .ref a6, .int 1, .int 0])), (a2, .inl (T 0, 12, .inl (fun _ => 0))), (a3, .inl (T 0, 12, .inl (fun _ => 0))), (a4, .inl (T 0, 12, .inl (fun _ => 0))), (a5, .inl (T 0, 12, .inl (fun _ => 0))), (a6, .inl (T 0, 12, .inl (fun _ => 0)))] H := by have h9 : va_P (dC, dI) vwCl [(a1, .inr (10, [.ref a2, .ref a3, .ref a4, .ref a5, .ref a6, .int 1, .int 0])), (a2, .inl (T 0, 12, .inl (fun _ => 0))), (a3, .inl (T 0, 12, .inl (fun _ => 0))), (a4, .inl (T 0, 12, .inl (fun _ => 0))), (a5, .inl (T 0, 12, .inl (fun _ => 0))), (a6, .inl (T 0, 12, .inl (upd (fun _ => 0) (0 : Int32).toNatClampNeg 0)))] H := hP; rw [xz] at h9; exact h9
  have hD : va_D A [(a1, .inr (10, [.ref a2, .ref a3, .ref a4, .ref a5, .ref a6, .int 1, .int 0])), (a2, .inl (T 0, 12, .inl (fun _ => 0))), (a3, .inl (T 0, 12, .inl (fun _ => 0))), (a4, .inl (T 0, 12, .inl (fun _ => 0))), (a5, .inl (T 0, 12, .inl (fun _ => 0))), (a6, .inl (T 0, 12, .inl (fun _ => 0)))] := by have h9 : va_D A [(a1, .inr (10, [.ref a2, .ref a3, .ref a4, .ref a5, .ref a6, .int 1, .int 0])), (a2, .inl (T 0, 12, .inl (fun _ => 0))), (a3, .inl (T 0, 12, .inl (fun _ => 0))), (a4, .inl (T 0, 12, .inl (fun _ => 0))), (a5, .inl (T 0, 12, .inl (fun _ => 0))), (a6, .inl (T 0, 12, .inl (upd (fun _ => 0) (0 : Int32).toNatClampNeg 0)))] := hD; rw [xz] at h9; exact h9
  refine lv_aload_n hx hb dX5_put_33 rfl (lv_at hl 0 rfl) ?_
  refine lv_iload_n hx hb dX5_put_34 rfl (lv_at hl 1 rfl) ?_
  refine lv_iload_n hx hb dX5_put_35 rfl (lv_at hl 2 rfl) ?_
  refine lv_iload_n hx hb dX5_put_36 rfl (lv_at hl 3 rfl) ?_
  have hPc := hP.sub (ws' := [(a1, .inr (10, [.ref a2, .ref a3, .ref a4, .ref a5, .ref a6, .int 1, .int 0])), (a2, .inl (T 0, 12, .inl (fun _ => 0))), (a3, .inl (T 0, 12, .inl (fun _ => 0)))]) [0, 1, 2] rfl
  have hDc := hD.sub (ws' := [(a1, .inr (10, [.ref a2, .ref a3, .ref a4, .ref a5, .ref a6, .int 1, .int 0])), (a2, .inl (T 0, 12, .inl (fun _ => 0))), (a3, .inl (T 0, 12, .inl (fun _ => 0)))]) [0, 1, 2] (by decide) rfl
  have hFc := va_free (wc := [(a1, .inr (10, [.ref a2, .ref a3, .ref a4, .ref a5, .ref a6, .int 1, .int 0])), (a2, .inl (T 0, 12, .inl (fun _ => 0))), (a3, .inl (T 0, 12, .inl (fun _ => 0)))]) hD hS hA [0, 1, 2] rfl
  refine va_callv (va_runV (As := [.int 0, .int p2, .int p3]) (rest := []) ⟨hx, hb, hml, hown, hts⟩ (xcX5_setPlace l hst dC dI T a1 a2 a3 a4 a5 a6 H.size p2 p3) (cwV 3 hts gX5_put_X5_setPlace rfl rfl rfl (by decide +kernel) ⟨Nat.le_of_ble_eq_true rfl, Nat.le_of_ble_eq_true rfl⟩) ⟨xBlind, va_recv hK hPc (ci := 10) (q0 := 0) rfl rfl, xCall hK hG hS hPc hDc hFc⟩ rfl rfl hl.1 rfl (lv_room (Nat.le_of_ble_eq_true rfl)) dX5_put_37 ⟨Nat.le_of_ble_eq_true rfl, Nat.le_of_ble_eq_true rfl⟩) hS (fun q _ h => hFc q h) hFc (fun u t H locs ht hvm hw hB hz1 hk1 hS => ?_)
  rcases hB with ⟨hP1, hD1⟩
  rw [ht] at hP1
  obtain ⟨hP, hD⟩ := va_join (wr := [(a4, .inl (T 0, 12, .inl (fun _ => 0))), (a5, .inl (T 0, 12, .inl (fun _ => 0))), (a6, .inl (T 0, 12, .inl (fun _ => 0)))]) (w1 := [(a1, .inr (10, [.ref a2, .ref a3, .ref a4, .ref a5, .ref a6, .int 1, .int 1])), (a2, .inl (T 0, 12, .inl (upd (fun _ => 0) (0 : Int32).toNatClampNeg p2))), (a3, .inl (T 0, 12, .inl (upd (fun _ => 0) (0 : Int32).toNatClampNeg p3)))]) hP hD [0, 1, 2] [3, 4, 5] rfl rfl (by decide) (by decide) hk1 hFc hP1 hD1
  have hP := hP.sub (ws' := [(a1, .inr (10, [.ref a2, .ref a3, .ref a4, .ref a5, .ref a6, .int 1, .int 1])), (a2, .inl (T 0, 12, .inl (upd (fun _ => 0) (0 : Int32).toNatClampNeg p2))), (a3, .inl (T 0, 12, .inl (upd (fun _ => 0) (0 : Int32).toNatClampNeg p3))), (a4, .inl (T 0, 12, .inl (fun _ => 0))), (a5, .inl (T 0, 12, .inl (fun _ => 0))), (a6, .inl (T 0, 12, .inl (fun _ => 0)))]) [3, 4, 5, 0, 1, 2] rfl
  have hD := hD.sub (ws' := [(a1, .inr (10, [.ref a2, .ref a3, .ref a4, .ref a5, .ref a6, .int 1, .int 1])), (a2, .inl (T 0, 12, .inl (upd (fun _ => 0) (0 : Int32).toNatClampNeg p2))), (a3, .inl (T 0, 12, .inl (upd (fun _ => 0) (0 : Int32).toNatClampNeg p3))), (a4, .inl (T 0, 12, .inl (fun _ => 0))), (a5, .inl (T 0, 12, .inl (fun _ => 0))), (a6, .inl (T 0, 12, .inl (fun _ => 0)))]) [3, 4, 5, 0, 1, 2] (by decide) rfl
  clear hPc hDc hFc hP1 hD1 hk1 hz1 ht hvm
  have hP9 := hP.sub (ws' := [(a1, .inr (10, [.ref a2, .ref a3, .ref a4, .ref a5, .ref a6, .int 1, .int 1])), (a2, .inl (T 0, 12, .inl (upd (fun _ => 0) (0 : Int32).toNatClampNeg p2))), (a3, .inl (T 0, 12, .inl (upd (fun _ => 0) (0 : Int32).toNatClampNeg p3))), (a4, .inl (T 0, 12, .inl (fun _ => 0))), (a5, .inl (T 0, 12, .inl (fun _ => 0))), (a6, .inl (T 0, 12, .inl (fun _ => 0)))]) [0, 1, 2, 3, 4, 5] rfl
  have hD9 := hD.sub (ws' := [(a1, .inr (10, [.ref a2, .ref a3, .ref a4, .ref a5, .ref a6, .int 1, .int 1])), (a2, .inl (T 0, 12, .inl (upd (fun _ => 0) (0 : Int32).toNatClampNeg p2))), (a3, .inl (T 0, 12, .inl (upd (fun _ => 0) (0 : Int32).toNatClampNeg p3))), (a4, .inl (T 0, 12, .inl (fun _ => 0))), (a5, .inl (T 0, 12, .inl (fun _ => 0))), (a6, .inl (T 0, 12, .inl (fun _ => 0)))]) [0, 1, 2, 3, 4, 5] (by decide) rfl
  exact W.vret hx hb hr (fun t ht hW => ⟨⟨(), rfl, trivial, ⟨by rw [ht]; exact hP9, hD9⟩⟩, hS.F ht⟩) hS.2.2 dX5_put_40
set_option maxHeartbeats 4000000 in
set_option maxRecDepth 100000 in
theorem xcX11_addPoint (l : Launch) (hst : l.stackTraces = false) (dC : Nat → ClassId) (dI : Nat → Nat → Nat) (T : Nat → ClassId) (a1 : Nat) (a2 : Nat) (a3 : Nat) (a4 : Nat) (a5 : Nat) (a6 : Nat) (a7 : Nat) (a8 : Nat) (a9 : Nat) (a10 : Nat) (a11 : Nat) (a12 : Nat) (a13 : Nat) (a14 : Nat) (a15 : Nat) (a16 : Nat) (a17 : Nat) (sz : Nat) (p1 : Int32) (p2 : Int32) (ra21 : Nat → Nat) : vx_Met l yX11_addPoint wsX11_addPoint ({ frames := 8, cells := 2, slots := 12, locals := 126 } : Room) (va_Pc [.ref a1, .int p1, .int p2] (fun U => xB dC dI T [(a1, .inr (16, [.ref a2, .ref a3, .ref a4, .ref a5, .ref a6, .ref a7, .ref a8, .ref a9, .ref a10, .ref a11])), (a2, .inr (10, [.ref a12, .ref a13, .ref a14, .ref a15, .ref a16, .int 0, .int 0])), (a12, .inl (T 0, 12, .inl (fun _ => 0))), (a13, .inl (T 0, 12, .inl (fun _ => 0))), (a14, .inl (T 0, 12, .inl (fun _ => 0))), (a15, .inl (T 0, 12, .inl (fun _ => 0))), (a16, .inl (T 0, 12, .inl (fun _ => 0))), (a3, .inr (11, [.ref a17, .int 0, .int 0])), (a17, .inl (T 2, 20, .inr (.inr (.inr (.inr (fun i => if i < 20 then some (ra21 i) else none)))))), ((ra21 0), .inl (T 0, 72, .inl (fun _ => 0)))] sz U)) (va_Qi (fun (r u : Int32) => r = u) (fun (u : Int32) (t : State) => (((¬ (p1.toInt < -100)) ∧ (p1.toInt ≤ 100)) ∧ ((¬ (p2.toInt < -100)) ∧ (p2.toInt ≤ 100))) ∧ 0 = u ∧ xE dC dI [] (va_A [(a1, .inr (16, [.ref a2, .ref a3, .ref a4, .ref a5, .ref a6, .ref a7, .ref a8, .ref a9, .ref a10, .ref a11])), (a2, .inr (10, [.ref a12, .ref a13, .ref a14, .ref a15, .ref a16, .int 0, .int 0])), (a12, .inl (T 0, 12, .inl (fun _ => 0))), (a13, .inl (T 0, 12, .inl (fun _ => 0))), (a14, .inl (T 0, 12, .inl (fun _ => 0))), (a15, .inl (T 0, 12, .inl (fun _ => 0))), (a16, .inl (T 0, 12, .inl (fun _ => 0))), (a3, .inr (11, [.ref a17, .int 0, .int 0])), (a17, .inl (T 2, 20, .inr (.inr (.inr (.inr (fun i => if i < 20 then some (ra21 i) else none)))))), ((ra21 0), .inl (T 0, 72, .inl (fun _ => 0)))] sz) t) (va_A [(a1, .inr (16, [.ref a2, .ref a3, .ref a4, .ref a5, .ref a6, .ref a7, .ref a8, .ref a9, .ref a10, .ref a11])), (a2, .inr (10, [.ref a12, .ref a13, .ref a14, .ref a15, .ref a16, .int 0, .int 0])), (a12, .inl (T 0, 12, .inl (fun _ => 0))), (a13, .inl (T 0, 12, .inl (fun _ => 0))), (a14, .inl (T 0, 12, .inl (fun _ => 0))), (a15, .inl (T 0, 12, .inl (fun _ => 0))), (a16, .inl (T 0, 12, .inl (fun _ => 0))), (a3, .inr (11, [.ref a17, .int 0, .int 0])), (a17, .inl (T 2, 20, .inr (.inr (.inr (.inr (fun i => if i < 20 then some (ra21 i) else none)))))), ((ra21 0), .inl (T 0, 72, .inl (fun _ => 0)))] sz)) (vx_X (fun _ : Unit => True) (fun (E : String) (_ : Unit) (t : State) => (((p1.toInt < -100) ∨ ((¬ (p1.toInt < -100)) ∧ (¬ (p1.toInt ≤ 100)))) ∨ (((¬ (p1.toInt < -100)) ∧ (p1.toInt ≤ 100)) ∧ ((p2.toInt < -100) ∨ ((¬ (p2.toInt < -100)) ∧ (¬ (p2.toInt ≤ 100)))))) ∧ E = "java/lang/IllegalArgumentException" ∧ xE dC dI [] (va_A [(a1, .inr (16, [.ref a2, .ref a3, .ref a4, .ref a5, .ref a6, .ref a7, .ref a8, .ref a9, .ref a10, .ref a11])), (a2, .inr (10, [.ref a12, .ref a13, .ref a14, .ref a15, .ref a16, .int 0, .int 0])), (a12, .inl (T 0, 12, .inl (fun _ => 0))), (a13, .inl (T 0, 12, .inl (fun _ => 0))), (a14, .inl (T 0, 12, .inl (fun _ => 0))), (a15, .inl (T 0, 12, .inl (fun _ => 0))), (a16, .inl (T 0, 12, .inl (fun _ => 0))), (a3, .inr (11, [.ref a17, .int 0, .int 0])), (a17, .inl (T 2, 20, .inr (.inr (.inr (.inr (fun i => if i < 20 then some (ra21 i) else none)))))), ((ra21 0), .inl (T 0, 72, .inl (fun _ => 0)))] sz) t) (va_A [(a1, .inr (16, [.ref a2, .ref a3, .ref a4, .ref a5, .ref a6, .ref a7, .ref a8, .ref a9, .ref a10, .ref a11])), (a2, .inr (10, [.ref a12, .ref a13, .ref a14, .ref a15, .ref a16, .int 0, .int 0])), (a12, .inl (T 0, 12, .inl (fun _ => 0))), (a13, .inl (T 0, 12, .inl (fun _ => 0))), (a14, .inl (T 0, 12, .inl (fun _ => 0))), (a15, .inl (T 0, 12, .inl (fun _ => 0))), (a16, .inl (T 0, 12, .inl (fun _ => 0))), (a3, .inr (11, [.ref a17, .int 0, .int 0])), (a17, .inl (T 2, 20, .inr (.inr (.inr (.inr (fun i => if i < 20 then some (ra21 i) else none)))))), ((ra21 0), .inl (T 0, 72, .inl (fun _ => 0)))] sz)) 2 12 (va_A [(a1, .inr (16, [.ref a2, .ref a3, .ref a4, .ref a5, .ref a6, .ref a7, .ref a8, .ref a9, .ref a10, .ref a11])), (a2, .inr (10, [.ref a12, .ref a13, .ref a14, .ref a15, .ref a16, .int 0, .int 0])), (a12, .inl (T 0, 12, .inl (fun _ => 0))), (a13, .inl (T 0, 12, .inl (fun _ => 0))), (a14, .inl (T 0, 12, .inl (fun _ => 0))), (a15, .inl (T 0, 12, .inl (fun _ => 0))), (a16, .inl (T 0, 12, .inl (fun _ => 0))), (a3, .inr (11, [.ref a17, .int 0, .int 0])), (a17, .inl (T 2, 20, .inr (.inr (.inr (.inr (fun i => if i < 20 then some (ra21 i) else none)))))), ((ra21 0), .inl (T 0, 72, .inl (fun _ => 0)))] sz) := by
  refine vx_ofW (cc := cX11_addPoint) (maxL := 4) (ret := (some .int)) (by decide +kernel) rfl ?_
  intro p e s m args below meth c s₁ B hml hex hv
  obtain ⟨rfl, hsz, hP, hK, hD0, hG⟩ := hv
  have hx := B.exec
  have hb := B.bytes
  have hr := B.returns
  have hts := atoms_spec (ws := wsX11_addPoint) B.pre
  have hown : s.vm.findClass RX11 = some m.cls := findClass_of_methodNamed B.named
  have hlocks := B.notSynchronized
  have hin_X11 : ∀ w ∈ wsX110, w ∈ wsX11_addPoint := by decide +kernel
  subst hsz
  have hD := hD0.self (sz := s.heap.size)
  generalize hAe : va_A [(a1, .inr (16, [.ref a2, .ref a3, .ref a4, .ref a5, .ref a6, .ref a7, .ref a8, .ref a9, .ref a10, .ref a11])), (a2, .inr (10, [.ref a12, .ref a13, .ref a14, .ref a15, .ref a16, .int 0, .int 0])), (a12, .inl (T 0, 12, .inl (fun _ => 0))), (a13, .inl (T 0, 12, .inl (fun _ => 0))), (a14, .inl (T 0, 12, .inl (fun _ => 0))), (a15, .inl (T 0, 12, .inl (fun _ => 0))), (a16, .inl (T 0, 12, .inl (fun _ => 0))), (a3, .inr (11, [.ref a17, .int 0, .int 0])), (a17, .inl (T 2, 20, .inr (.inr (.inr (.inr (fun i => if i < 20 then some (ra21 i) else none)))))), ((ra21 0), .inl (T 0, 72, .inl (fun _ => 0)))] s.heap.size = A at hD hG ⊢
  have hA : ∀ q : Nat, s.heap.size ≤ q → A q := fun q h => by rw [← hAe]; exact Or.inr h
  have hS : va_S A s.heap s.heap [] := va_S.rf
  have hl := lv_entry ([.ref a1, .int p1, .int p2]) (n := 4) (Nat.le_of_ble_eq_true rfl)
  rw [lg_entry_eq]
  generalize (lg_sl ([.ref a1, .int p1, .int p2]) ++ List.replicate (4 - (lg_sl ([.ref a1, .int p1, .int p2])).length) Slot.unset).toArray = ls at hl ⊢
  have hl : lv_has ls 4 [(0, .ref a1), (1, .int p1), (2, .int p2)] := hl
  refine lv_iload_n hx hb dX11_addPoint_0 rfl (lv_at hl 1 rfl) ?_
  refine lv_iload_n hx hb dX11_addPoint_1 rfl (lv_at hl 2 rfl) ?_
  refine lv_bipush (v := 100) hx hb dX11_addPoint_2 (by decide) ?_
  have hPc := hP.sub (ws' := []) [] rfl
  have hDc := hD.sub (ws' := []) [] (by decide) rfl
  have hFc := va_free (wc := []) hD hS hA [] rfl
  refine vx_callv (vx_runS (As := [.int p1, .int p2, .int 100]) (rest := []) ⟨hx, hb, hml, hown, hts⟩ (xcX11_needBoth l hst dC dI T s.heap.size p1 p2) (cwS 3 hts gX11_addPoint_X11_needBoth rfl rfl rfl (by decide +kernel) ⟨Nat.le_of_ble_eq_true rfl, Nat.le_of_ble_eq_true rfl⟩) ⟨xBlind, xCall hK hG hS hPc hDc hFc⟩ rfl rfl hl.1 rfl (lv_room (Nat.le_of_ble_eq_true rfl)) dX11_addPoint_4 ⟨Nat.le_of_ble_eq_true rfl, Nat.le_of_ble_eq_true rfl⟩) hS (fun q _ h => hFc q h) hFc (fun q _ h => hFc q h) (fun E ce q9 u t H locs ht hvm hw hB hz1 hk1 hS hce hcv hcl => ?_) (fun u t H locs ht hvm hw hB hz1 hk1 hS => ?_)
  · rcases hB with ⟨c_1, hE, hP1, hD1⟩
    subst hE
    rw [ht] at hP1
    obtain ⟨hP, hD⟩ := va_join (wr := [(a1, .inr (16, [.ref a2, .ref a3, .ref a4, .ref a5, .ref a6, .ref a7, .ref a8, .ref a9, .ref a10, .ref a11])), (a2, .inr (10, [.ref a12, .ref a13, .ref a14, .ref a15, .ref a16, .int 0, .int 0])), (a12, .inl (T 0, 12, .inl (fun _ => 0))), (a13, .inl (T 0, 12, .inl (fun _ => 0))), (a14, .inl (T 0, 12, .inl (fun _ => 0))), (a15, .inl (T 0, 12, .inl (fun _ => 0))), (a16, .inl (T 0, 12, .inl (fun _ => 0))), (a3, .inr (11, [.ref a17, .int 0, .int 0])), (a17, .inl (T 2, 20, .inr (.inr (.inr (.inr (fun i => if i < 20 then some (ra21 i) else none)))))), ((ra21 0), .inl (T 0, 72, .inl (fun _ => 0)))]) (w1 := []) hP hD [] [0, 1, 2, 3, 4, 5, 6, 7, 8, 9] rfl rfl (by decide) (by decide) hk1 hFc hP1 hD1
    have hP : va_P (dC, dI) vwCl [(a1, .inr (16, [.ref a2, .ref a3, .ref a4, .ref a5, .ref a6, .ref a7, .ref a8, .ref a9, .ref a10, .ref a11])), (a2, .inr (10, [.ref a12, .ref a13, .ref a14, .ref a15, .ref a16, .int 0, .int 0])), (a12, .inl (T 0, 12, .inl (fun _ => 0))), (a13, .inl (T 0, 12, .inl (fun _ => 0))), (a14, .inl (T 0, 12, .inl (fun _ => 0))), (a15, .inl (T 0, 12, .inl (fun _ => 0))), (a16, .inl (T 0, 12, .inl (fun _ => 0))), (a3, .inr (11, [.ref a17, .int 0, .int 0])), (a17, .inl (T 2, 20, .inr (.inr (.inr (.inr (fun i => if i < 20 then some (ra21 i) else none)))))), ((ra21 0), .inl (T 0, 72, .inl (fun _ => 0)))] H := hP
    have hD : va_D A [(a1, .inr (16, [.ref a2, .ref a3, .ref a4, .ref a5, .ref a6, .ref a7, .ref a8, .ref a9, .ref a10, .ref a11])), (a2, .inr (10, [.ref a12, .ref a13, .ref a14, .ref a15, .ref a16, .int 0, .int 0])), (a12, .inl (T 0, 12, .inl (fun _ => 0))), (a13, .inl (T 0, 12, .inl (fun _ => 0))), (a14, .inl (T 0, 12, .inl (fun _ => 0))), (a15, .inl (T 0, 12, .inl (fun _ => 0))), (a16, .inl (T 0, 12, .inl (fun _ => 0))), (a3, .inr (11, [.ref a17, .int 0, .int 0])), (a17, .inl (T 2, 20, .inr (.inr (.inr (.inr (fun i => if i < 20 then some (ra21 i) else none)))))), ((ra21 0), .inl (T 0, 72, .inl (fun _ => 0)))] := hD
    clear hPc hDc hFc hP1 hD1 hk1 hz1 ht hvm
    have hP9 := hP.sub (ws' := []) [] rfl
    have hD9 := hD.sub (ws' := []) [] (by decide) rfl
    exact vx_out (fun x hx => absurd (hex x hx) id) hlocks hce hcv hcl (fun t ht _ => ⟨(), trivial, ⟨c_1, rfl, by rw [ht]; exact hP9, hD9⟩, hS.F ht⟩) hS.2.2 (Nat.le_of_ble_eq_true rfl) (Nat.le_of_ble_eq_true rfl)
  · rcases hB with ⟨c_2, hP1, hD1⟩
    rw [ht] at hP1
    obtain ⟨hP, hD⟩ := va_join (wr := [(a1, .inr (16, [.ref a2, .ref a3, .ref a4, .ref a5, .ref a6, .ref a7, .ref a8, .ref a9, .ref a10, .ref a11])), (a2, .inr (10, [.ref a12, .ref a13, .ref a14, .ref a15, .ref a16, .int 0, .int 0])), (a12, .inl (T 0, 12, .inl (fun _ => 0))), (a13, .inl (T 0, 12, .inl (fun _ => 0))), (a14, .inl (T 0, 12, .inl (fun _ => 0))), (a15, .inl (T 0, 12, .inl (fun _ => 0))), (a16, .inl (T 0, 12, .inl (fun _ => 0))), (a3, .inr (11, [.ref a17, .int 0, .int 0])), (a17, .inl (T 2, 20, .inr (.inr (.inr (.inr (fun i => if i < 20 then some (ra21 i) else none)))))), ((ra21 0), .inl (T 0, 72, .inl (fun _ => 0)))]) (w1 := []) hP hD [] [0, 1, 2, 3, 4, 5, 6, 7, 8, 9] rfl rfl (by decide) (by decide) hk1 hFc hP1 hD1
    have hP : va_P (dC, dI) vwCl [(a1, .inr (16, [.ref a2, .ref a3, .ref a4, .ref a5, .ref a6, .ref a7, .ref a8, .ref a9, .ref a10, .ref a11])), (a2, .inr (10, [.ref a12, .ref a13, .ref a14, .ref a15, .ref a16, .int 0, .int 0])), (a12, .inl (T 0, 12, .inl (fun _ => 0))), (a13, .inl (T 0, 12, .inl (fun _ => 0))), (a14, .inl (T 0, 12, .inl (fun _ => 0))), (a15, .inl (T 0, 12, .inl (fun _ => 0))), (a16, .inl (T 0, 12, .inl (fun _ => 0))), (a3, .inr (11, [.ref a17, .int 0, .int 0])), (a17, .inl (T 2, 20, .inr (.inr (.inr (.inr (fun i => if i < 20 then some (ra21 i) else none)))))), ((ra21 0), .inl (T 0, 72, .inl (fun _ => 0)))] H := hP
    have hD : va_D A [(a1, .inr (16, [.ref a2, .ref a3, .ref a4, .ref a5, .ref a6, .ref a7, .ref a8, .ref a9, .ref a10, .ref a11])), (a2, .inr (10, [.ref a12, .ref a13, .ref a14, .ref a15, .ref a16, .int 0, .int 0])), (a12, .inl (T 0, 12, .inl (fun _ => 0))), (a13, .inl (T 0, 12, .inl (fun _ => 0))), (a14, .inl (T 0, 12, .inl (fun _ => 0))), (a15, .inl (T 0, 12, .inl (fun _ => 0))), (a16, .inl (T 0, 12, .inl (fun _ => 0))), (a3, .inr (11, [.ref a17, .int 0, .int 0])), (a17, .inl (T 2, 20, .inr (.inr (.inr (.inr (fun i => if i < 20 then some (ra21 i) else none)))))), ((ra21 0), .inl (T 0, 72, .inl (fun _ => 0)))] := hD
    clear hPc hDc hFc hP1 hD1 hk1 hz1 ht hvm
    refine lv_aload_n hx hb dX11_addPoint_7 rfl (lv_at hl 0 rfl) ?_
    refine va_get (D := (dC, dI)) (ci := 16) (v := .ref a2) (C := RX11) (T := TX11) (N := 10) hx hb hts hin_X11 hown hK hP 0 rfl rfl 0 (by decide) (hts (.fieldLink RX11 12 "Nearestward" "ground" "LNearestward$Ground;") (by decide +kernel)) (fun _ h9 => h9) rfl dX11_addPoint_8 ?_
    refine lv_iload_n hx hb dX11_addPoint_11 rfl (lv_at hl 1 rfl) ?_
    refine lv_iload_n hx hb dX11_addPoint_12 rfl (lv_at hl 2 rfl) ?_
    have hPc := hP.sub (ws' := [(a2, .inr (10, [.ref a12, .ref a13, .ref a14, .ref a15, .ref a16, .int 0, .int 0]))]) [1] rfl
    have hDc := hD.sub (ws' := [(a2, .inr (10, [.ref a12, .ref a13, .ref a14, .ref a15, .ref a16, .int 0, .int 0]))]) [1] (by decide) rfl
    have hFc := va_free (wc := [(a2, .inr (10, [.ref a12, .ref a13, .ref a14, .ref a15, .ref a16, .int 0, .int 0]))]) hD hS hA [1] rfl
    refine va_calli (va_runV (As := [.int p1, .int p2]) (rest := []) ⟨hx, hb, hml, hown, hts⟩ (xcX5_numberAt l hst dC dI T a2 a12 a13 a14 a15 a16 H.size p1 p2) (cwV 2 hts gX11_addPoint_X5_numberAt rfl rfl rfl (by decide +kernel) ⟨Nat.le_of_ble_eq_true rfl, Nat.le_of_ble_eq_true rfl⟩) ⟨xBlind, va_recv hK hPc (ci := 10) (q0 := 0) rfl rfl, xCall hK hG hS hPc hDc hFc⟩ rfl rfl hl.1 rfl (lv_room (Nat.le_of_ble_eq_true rfl)) dX11_addPoint_13 ⟨Nat.le_of_ble_eq_true rfl, Nat.le_of_ble_eq_true rfl⟩) hS (fun q _ h => hFc q h) hFc (fun r_9 u t H locs ht hvm hw hB hz1 hk1 hS => ?_)
    subst hw
    rcases hB with ⟨hr_9, hP1, hD1⟩
    rw [ht] at hP1
    subst hr_9
    obtain ⟨hP, hD⟩ := va_join (wr := [(a1, .inr (16, [.ref a2, .ref a3, .ref a4, .ref a5, .ref a6, .ref a7, .ref a8, .ref a9, .ref a10, .ref a11])), (a12, .inl (T 0, 12, .inl (fun _ => 0))), (a13, .inl (T 0, 12, .inl (fun _ => 0))), (a14, .inl (T 0, 12, .inl (fun _ => 0))), (a15, .inl (T 0, 12, .inl (fun _ => 0))), (a16, .inl (T 0, 12, .inl (fun _ => 0))), (a3, .inr (11, [.ref a17, .int 0, .int 0])), (a17, .inl (T 2, 20, .inr (.inr (.inr (.inr (fun i => if i < 20 then some (ra21 i) else none)))))), ((ra21 0), .inl (T 0, 72, .inl (fun _ => 0)))]) (w1 := [(a2, .inr (10, [.ref a12, .ref a13, .ref a14, .ref a15, .ref a16, .int 0, .int 0]))]) hP hD [1] [0, 2, 3, 4, 5, 6, 7, 8, 9] rfl rfl (by decide) (by decide) hk1 hFc hP1 hD1
    have hP := hP.sub (ws' := [(a1, .inr (16, [.ref a2, .ref a3, .ref a4, .ref a5, .ref a6, .ref a7, .ref a8, .ref a9, .ref a10, .ref a11])), (a2, .inr (10, [.ref a12, .ref a13, .ref a14, .ref a15, .ref a16, .int 0, .int 0])), (a12, .inl (T 0, 12, .inl (fun _ => 0))), (a13, .inl (T 0, 12, .inl (fun _ => 0))), (a14, .inl (T 0, 12, .inl (fun _ => 0))), (a15, .inl (T 0, 12, .inl (fun _ => 0))), (a16, .inl (T 0, 12, .inl (fun _ => 0))), (a3, .inr (11, [.ref a17, .int 0, .int 0])), (a17, .inl (T 2, 20, .inr (.inr (.inr (.inr (fun i => if i < 20 then some (ra21 i) else none)))))), ((ra21 0), .inl (T 0, 72, .inl (fun _ => 0)))]) [0, 9, 1, 2, 3, 4, 5, 6, 7, 8] rfl
    have hD := hD.sub (ws' := [(a1, .inr (16, [.ref a2, .ref a3, .ref a4, .ref a5, .ref a6, .ref a7, .ref a8, .ref a9, .ref a10, .ref a11])), (a2, .inr (10, [.ref a12, .ref a13, .ref a14, .ref a15, .ref a16, .int 0, .int 0])), (a12, .inl (T 0, 12, .inl (fun _ => 0))), (a13, .inl (T 0, 12, .inl (fun _ => 0))), (a14, .inl (T 0, 12, .inl (fun _ => 0))), (a15, .inl (T 0, 12, .inl (fun _ => 0))), (a16, .inl (T 0, 12, .inl (fun _ => 0))), (a3, .inr (11, [.ref a17, .int 0, .int 0])), (a17, .inl (T 2, 20, .inr (.inr (.inr (.inr (fun i => if i < 20 then some (ra21 i) else none)))))), ((ra21 0), .inl (T 0, 72, .inl (fun _ => 0)))]) [0, 9, 1, 2, 3, 4, 5, 6, 7, 8] (by decide) rfl
    clear hPc hDc hFc hP1 hD1 hk1 hz1 ht hvm
    refine lv_iconst (v := (-1)) hx hb dX11_addPoint_16 (by decide) ?_
    refine lv_icmp_eq (tgt := 30) hx hb dX11_addPoint_17 (by decide) (fun c_4 => ?_) (fun c_4 => absurd (by decide) c_4)
    refine lv_aload_n hx hb dX11_addPoint_30 rfl (lv_at hl 0 rfl) ?_
    refine va_get (D := (dC, dI)) (ci := 16) (v := .ref a2) (C := RX11) (T := TX11) (N := 10) hx hb hts hin_X11 hown hK hP 0 rfl rfl 0 (by decide) (hts (.fieldLink RX11 12 "Nearestward" "ground" "LNearestward$Ground;") (by decide +kernel)) (fun _ h9 => h9) rfl dX11_addPoint_31 ?_
    have hPc := hP.sub (ws' := [(a2, .inr (10, [.ref a12, .ref a13, .ref a14, .ref a15, .ref a16, .int 0, .int 0]))]) [1] rfl
    have hDc := hD.sub (ws' := [(a2, .inr (10, [.ref a12, .ref a13, .ref a14, .ref a15, .ref a16, .int 0, .int 0]))]) [1] (by decide) rfl
    have hFc := va_free (wc := [(a2, .inr (10, [.ref a12, .ref a13, .ref a14, .ref a15, .ref a16, .int 0, .int 0]))]) hD hS hA [1] rfl
    refine va_calli (va_runV (As := []) (rest := []) ⟨hx, hb, hml, hown, hts⟩ (xcX5_lowestFree l hst dC dI T a2 a12 a13 a14 a15 a16 H.size) (cwV 0 hts gX11_addPoint_X5_lowestFree rfl rfl rfl (by decide +kernel) ⟨Nat.le_of_ble_eq_true rfl, Nat.le_of_ble_eq_true rfl⟩) ⟨xBlind, va_recv hK hPc (ci := 10) (q0 := 0) rfl rfl, xCall hK hG hS hPc hDc hFc⟩ rfl rfl hl.1 rfl (lv_room (Nat.le_of_ble_eq_true rfl)) dX11_addPoint_34 ⟨Nat.le_of_ble_eq_true rfl, Nat.le_of_ble_eq_true rfl⟩) hS (fun q _ h => hFc q h) hFc (fun r_9 u t H locs ht hvm hw hB hz1 hk1 hS => ?_)
    subst hw
    rcases hB with ⟨hr_9, hP1, hD1⟩
    rw [ht] at hP1
    subst hr_9
    obtain ⟨hP, hD⟩ := va_join (wr := [(a1, .inr (16, [.ref a2, .ref a3, .ref a4, .ref a5, .ref a6, .ref a7, .ref a8, .ref a9, .ref a10, .ref a11])), (a12, .inl (T 0, 12, .inl (fun _ => 0))), (a13, .inl (T 0, 12, .inl (fun _ => 0))), (a14, .inl (T 0, 12, .inl (fun _ => 0))), (a15, .inl (T 0, 12, .inl (fun _ => 0))), (a16, .inl (T 0, 12, .inl (fun _ => 0))), (a3, .inr (11, [.ref a17, .int 0, .int 0])), (a17, .inl (T 2, 20, .inr (.inr (.inr (.inr (fun i => if i < 20 then some (ra21 i) else none)))))), ((ra21 0), .inl (T 0, 72, .inl (fun _ => 0)))]) (w1 := [(a2, .inr (10, [.ref a12, .ref a13, .ref a14, .ref a15, .ref a16, .int 0, .int 0]))]) hP hD [1] [0, 2, 3, 4, 5, 6, 7, 8, 9] rfl rfl (by decide) (by decide) hk1 hFc hP1 hD1
    have hP := hP.sub (ws' := [(a1, .inr (16, [.ref a2, .ref a3, .ref a4, .ref a5, .ref a6, .ref a7, .ref a8, .ref a9, .ref a10, .ref a11])), (a2, .inr (10, [.ref a12, .ref a13, .ref a14, .ref a15, .ref a16, .int 0, .int 0])), (a12, .inl (T 0, 12, .inl (fun _ => 0))), (a13, .inl (T 0, 12, .inl (fun _ => 0))), (a14, .inl (T 0, 12, .inl (fun _ => 0))), (a15, .inl (T 0, 12, .inl (fun _ => 0))), (a16, .inl (T 0, 12, .inl (fun _ => 0))), (a3, .inr (11, [.ref a17, .int 0, .int 0])), (a17, .inl (T 2, 20, .inr (.inr (.inr (.inr (fun i => if i < 20 then some (ra21 i) else none)))))), ((ra21 0), .inl (T 0, 72, .inl (fun _ => 0)))]) [0, 9, 1, 2, 3, 4, 5, 6, 7, 8] rfl
    have hD := hD.sub (ws' := [(a1, .inr (16, [.ref a2, .ref a3, .ref a4, .ref a5, .ref a6, .ref a7, .ref a8, .ref a9, .ref a10, .ref a11])), (a2, .inr (10, [.ref a12, .ref a13, .ref a14, .ref a15, .ref a16, .int 0, .int 0])), (a12, .inl (T 0, 12, .inl (fun _ => 0))), (a13, .inl (T 0, 12, .inl (fun _ => 0))), (a14, .inl (T 0, 12, .inl (fun _ => 0))), (a15, .inl (T 0, 12, .inl (fun _ => 0))), (a16, .inl (T 0, 12, .inl (fun _ => 0))), (a3, .inr (11, [.ref a17, .int 0, .int 0])), (a17, .inl (T 2, 20, .inr (.inr (.inr (.inr (fun i => if i < 20 then some (ra21 i) else none)))))), ((ra21 0), .inl (T 0, 72, .inl (fun _ => 0)))]) [0, 9, 1, 2, 3, 4, 5, 6, 7, 8] (by decide) rfl
    clear hPc hDc hFc hP1 hD1 hk1 hz1 ht hvm
    refine lv_istore_n (lv' := [(3, .int 0), (0, .ref a1), (1, .int p1), (2, .int p2)]) hx hb dX11_addPoint_37 rfl hl (by decide) rfl (fun ls hl => ?_)
    refine lv_iload_n hx hb dX11_addPoint_38 rfl (lv_at hl 0 rfl) ?_
    refine lv_iconst (v := (-1)) hx hb dX11_addPoint_39 (by decide) ?_
    refine lv_icmp_ne (tgt := 53) hx hb dX11_addPoint_40 (by decide) (fun c_6 => ?_) (fun c_6 => absurd c_6 (by decide))
    refine lv_aload_n hx hb dX11_addPoint_53 rfl (lv_at hl 1 rfl) ?_
    refine va_get (D := (dC, dI)) (ci := 16) (v := .ref a3) (C := RX11) (T := TX11) (N := 10) hx hb hts hin_X11 hown hK hP 0 rfl rfl 1 (by decide) (hts (.fieldLink RX11 19 "Nearestward" "history" "LNearestward$History;") (by decide +kernel)) (fun _ h9 => h9) rfl dX11_addPoint_54 ?_
    refine lv_aload_n hx hb dX11_addPoint_57 rfl (lv_at hl 1 rfl) ?_
    refine va_get (D := (dC, dI)) (ci := 16) (v := .ref a2) (C := RX11) (T := TX11) (N := 10) hx hb hts hin_X11 hown hK hP 0 rfl rfl 0 (by decide) (hts (.fieldLink RX11 12 "Nearestward" "ground" "LNearestward$Ground;") (by decide +kernel)) (fun _ h9 => h9) rfl dX11_addPoint_58 ?_
    have hPc := hP.sub (ws' := [(a2, .inr (10, [.ref a12, .ref a13, .ref a14, .ref a15, .ref a16, .int 0, .int 0])), (a12, .inl (T 0, 12, .inl (fun _ => 0))), (a13, .inl (T 0, 12, .inl (fun _ => 0))), (a14, .inl (T 0, 12, .inl (fun _ => 0))), (a15, .inl (T 0, 12, .inl (fun _ => 0))), (a16, .inl (T 0, 12, .inl (fun _ => 0))), (a3, .inr (11, [.ref a17, .int 0, .int 0])), (a17, .inl (T 2, 20, .inr (.inr (.inr (.inr (fun i => if i < 20 then some (ra21 i) else none)))))), ((ra21 0), .inl (T 0, 72, .inl (fun _ => 0)))]) [1, 2, 3, 4, 5, 6, 7, 8, 9] rfl
    have hDc := hD.sub (ws' := [(a2, .inr (10, [.ref a12, .ref a13, .ref a14, .ref a15, .ref a16, .int 0, .int 0])), (a12, .inl (T 0, 12, .inl (fun _ => 0))), (a13, .inl (T 0, 12, .inl (fun _ => 0))), (a14, .inl (T 0, 12, .inl (fun _ => 0))), (a15, .inl (T 0, 12, .inl (fun _ => 0))), (a16, .inl (T 0, 12, .inl (fun _ => 0))), (a3, .inr (11, [.ref a17, .int 0, .int 0])), (a17, .inl (T 2, 20, .inr (.inr (.inr (.inr (fun i => if i < 20 then some (ra21 i) else none)))))), ((ra21 0), .inl (T 0, 72, .inl (fun _ => 0)))]) [1, 2, 3, 4, 5, 6, 7, 8, 9] (by decide) rfl
    have hFc := va_free (wc := [(a2, .inr (10, [.ref a12, .ref a13, .ref a14, .ref a15, .ref a16, .int 0, .int 0])), (a12, .inl (T 0, 12, .inl (fun _ => 0))), (a13, .inl (T 0, 12, .inl (fun _ => 0))), (a14, .inl (T 0, 12, .inl (fun _ => 0))), (a15, .inl (T 0, 12, .inl (fun _ => 0))), (a16, .inl (T 0, 12, .inl (fun _ => 0))), (a3, .inr (11, [.ref a17, .int 0, .int 0])), (a17, .inl (T 2, 20, .inr (.inr (.inr (.inr (fun i => if i < 20 then some (ra21 i) else none)))))), ((ra21 0), .inl (T 0, 72, .inl (fun _ => 0)))]) hD hS hA [1, 2, 3, 4, 5, 6, 7, 8, 9] rfl
    refine va_callv (va_runV (As := [.ref a2]) (rest := []) ⟨hx, hb, hml, hown, hts⟩ (xcX6_keep l hst dC dI T a3 a2 a12 a13 a14 a15 a16 a17 H.size ra21) (cwV 1 hts gX11_addPoint_X6_keep rfl rfl rfl (by decide +kernel) ⟨Nat.le_of_ble_eq_true rfl, Nat.le_of_ble_eq_true rfl⟩) ⟨xBlind, va_recv hK hPc (ci := 11) (q0 := 6) rfl rfl, xCall hK hG hS hPc hDc hFc⟩ rfl rfl hl.1 rfl (lv_room (Nat.le_of_ble_eq_true rfl)) dX11_addPoint_61 ⟨Nat.le_of_ble_eq_true rfl, Nat.le_of_ble_eq_true rfl⟩) hS (fun q _ h => hFc q h) hFc (fun u t H locs ht hvm hw hB hz1 hk1 hS => ?_)
    rcases hB with ⟨hP1, hD1⟩
    rw [ht] at hP1
    obtain ⟨hP, hD⟩ := va_join (wr := [(a1, .inr (16, [.ref a2, .ref a3, .ref a4, .ref a5, .ref a6, .ref a7, .ref a8, .ref a9, .ref a10, .ref a11]))]) (w1 := [(a2, .inr (10, [.ref a12, .ref a13, .ref a14, .ref a15, .ref a16, .int 0, .int 0])), (a12, .inl (T 0, 12, .inl (fun _ => 0))), (a13, .inl (T 0, 12, .inl (fun _ => 0))), (a14, .inl (T 0, 12, .inl (fun _ => 0))), (a15, .inl (T 0, 12, .inl (fun _ => 0))), (a16, .inl (T 0, 12, .inl (fun _ => 0))), (a3, .inr (11, [.ref a17, .int 1, .int 1])), (a17, .inl (T 2, 20, .inr (.inr (.inr (.inr (fun i => if i < 20 then some (ra21 i) else none)))))), ((ra21 0), .inl (T 0, 72, .inl (fun _ => 0)))]) hP hD [1, 2, 3, 4, 5, 6, 7, 8, 9] [0] rfl rfl (by decide) (by decide) hk1 hFc hP1 hD1
    have hP : va_P (dC, dI) vwCl [(a1, .inr (16, [.ref a2, .ref a3, .ref a4, .ref a5, .ref a6, .ref a7, .ref a8, .ref a9, .ref a10, .ref a11])), (a2, .inr (10, [.ref a12, .ref a13, .ref a14, .ref a15, .ref a16, .int 0, .int 0])), (a12, .inl (T 0, 12, .inl (fun _ => 0))), (a13, .inl (T 0, 12, .inl (fun _ => 0))), (a14, .inl (T 0, 12, .inl (fun _ => 0))), (a15, .inl (T 0, 12, .inl (fun _ => 0))), (a16, .inl (T 0, 12, .inl (fun _ => 0))), (a3, .inr (11, [.ref a17, .int 1, .int 1])), (a17, .inl (T 2, 20, .inr (.inr (.inr (.inr (fun i => if i < 20 then some (ra21 i) else none)))))), ((ra21 0), .inl (T 0, 72, .inl (fun _ => 0)))] H := hP
    have hD : va_D A [(a1, .inr (16, [.ref a2, .ref a3, .ref a4, .ref a5, .ref a6, .ref a7, .ref a8, .ref a9, .ref a10, .ref a11])), (a2, .inr (10, [.ref a12, .ref a13, .ref a14, .ref a15, .ref a16, .int 0, .int 0])), (a12, .inl (T 0, 12, .inl (fun _ => 0))), (a13, .inl (T 0, 12, .inl (fun _ => 0))), (a14, .inl (T 0, 12, .inl (fun _ => 0))), (a15, .inl (T 0, 12, .inl (fun _ => 0))), (a16, .inl (T 0, 12, .inl (fun _ => 0))), (a3, .inr (11, [.ref a17, .int 1, .int 1])), (a17, .inl (T 2, 20, .inr (.inr (.inr (.inr (fun i => if i < 20 then some (ra21 i) else none)))))), ((ra21 0), .inl (T 0, 72, .inl (fun _ => 0)))] := hD
    clear hPc hDc hFc hP1 hD1 hk1 hz1 ht hvm
    refine lv_aload_n hx hb dX11_addPoint_64 rfl (lv_at hl 1 rfl) ?_
    refine va_get (D := (dC, dI)) (ci := 16) (v := .ref a2) (C := RX11) (T := TX11) (N := 10) hx hb hts hin_X11 hown hK hP 0 rfl rfl 0 (by decide) (hts (.fieldLink RX11 12 "Nearestward" "ground" "LNearestward$Ground;") (by decide +kernel)) (fun _ h9 => h9) rfl dX11_addPoint_65 ?_
    refine lv_iload_n hx hb dX11_addPoint_68 rfl (lv_at hl 0 rfl) ?_
    refine lv_iload_n hx hb dX11_addPoint_69 rfl (lv_at hl 2 rfl) ?_
    refine lv_iload_n hx hb dX11_addPoint_70 rfl (lv_at hl 3 rfl) ?_
    have hPc := hP.sub (ws' := [(a2, .inr (10, [.ref a12, .ref a13, .ref a14, .ref a15, .ref a16, .int 0, .int 0])), (a12, .inl (T 0, 12, .inl (fun _ => 0))), (a13, .inl (T 0, 12, .inl (fun _ => 0))), (a14, .inl (T 0, 12, .inl (fun _ => 0))), (a15, .inl (T 0, 12, .inl (fun _ => 0))), (a16, .inl (T 0, 12, .inl (fun _ => 0)))]) [1, 2, 3, 4, 5, 6] rfl
    have hDc := hD.sub (ws' := [(a2, .inr (10, [.ref a12, .ref a13, .ref a14, .ref a15, .ref a16, .int 0, .int 0])), (a12, .inl (T 0, 12, .inl (fun _ => 0))), (a13, .inl (T 0, 12, .inl (fun _ => 0))), (a14, .inl (T 0, 12, .inl (fun _ => 0))), (a15, .inl (T 0, 12, .inl (fun _ => 0))), (a16, .inl (T 0, 12, .inl (fun _ => 0)))]) [1, 2, 3, 4, 5, 6] (by decide) rfl
    have hFc := va_free (wc := [(a2, .inr (10, [.ref a12, .ref a13, .ref a14, .ref a15, .ref a16, .int 0, .int 0])), (a12, .inl (T 0, 12, .inl (fun _ => 0))), (a13, .inl (T 0, 12, .inl (fun _ => 0))), (a14, .inl (T 0, 12, .inl (fun _ => 0))), (a15, .inl (T 0, 12, .inl (fun _ => 0))), (a16, .inl (T 0, 12, .inl (fun _ => 0)))]) hD hS hA [1, 2, 3, 4, 5, 6] rfl
    refine va_callv (va_runV (As := [.int 0, .int p1, .int p2]) (rest := []) ⟨hx, hb, hml, hown, hts⟩ (xcX5_put l hst dC dI T a2 a12 a13 a14 a15 a16 H.size p1 p2) (cwV 3 hts gX11_addPoint_X5_put rfl rfl rfl (by decide +kernel) ⟨Nat.le_of_ble_eq_true rfl, Nat.le_of_ble_eq_true rfl⟩) ⟨xBlind, va_recv hK hPc (ci := 10) (q0 := 0) rfl rfl, xCall hK hG hS hPc hDc hFc⟩ rfl rfl hl.1 rfl (lv_room (Nat.le_of_ble_eq_true rfl)) dX11_addPoint_71 ⟨Nat.le_of_ble_eq_true rfl, Nat.le_of_ble_eq_true rfl⟩) hS (fun q _ h => hFc q h) hFc (fun u t H locs ht hvm hw hB hz1 hk1 hS => ?_)
    rcases hB with ⟨hP1, hD1⟩
    rw [ht] at hP1
    obtain ⟨hP, hD⟩ := va_join (wr := [(a1, .inr (16, [.ref a2, .ref a3, .ref a4, .ref a5, .ref a6, .ref a7, .ref a8, .ref a9, .ref a10, .ref a11])), (a3, .inr (11, [.ref a17, .int 1, .int 1])), (a17, .inl (T 2, 20, .inr (.inr (.inr (.inr (fun i => if i < 20 then some (ra21 i) else none)))))), ((ra21 0), .inl (T 0, 72, .inl (fun _ => 0)))]) (w1 := [(a2, .inr (10, [.ref a12, .ref a13, .ref a14, .ref a15, .ref a16, .int 1, .int 1])), (a12, .inl (T 0, 12, .inl (upd (fun _ => 0) (0 : Int32).toNatClampNeg p1))), (a13, .inl (T 0, 12, .inl (upd (fun _ => 0) (0 : Int32).toNatClampNeg p2))), (a14, .inl (T 0, 12, .inl (fun _ => 0))), (a15, .inl (T 0, 12, .inl (fun _ => 0))), (a16, .inl (T 0, 12, .inl (fun _ => 0)))]) hP hD [1, 2, 3, 4, 5, 6] [0, 7, 8, 9] rfl rfl (by decide) (by decide) hk1 hFc hP1 hD1
    have hP := hP.sub (ws' := [(a1, .inr (16, [.ref a2, .ref a3, .ref a4, .ref a5, .ref a6, .ref a7, .ref a8, .ref a9, .ref a10, .ref a11])), (a2, .inr (10, [.ref a12, .ref a13, .ref a14, .ref a15, .ref a16, .int 1, .int 1])), (a12, .inl (T 0, 12, .inl (upd (fun _ => 0) (0 : Int32).toNatClampNeg p1))), (a13, .inl (T 0, 12, .inl (upd (fun _ => 0) (0 : Int32).toNatClampNeg p2))), (a14, .inl (T 0, 12, .inl (fun _ => 0))), (a15, .inl (T 0, 12, .inl (fun _ => 0))), (a16, .inl (T 0, 12, .inl (fun _ => 0))), (a3, .inr (11, [.ref a17, .int 1, .int 1])), (a17, .inl (T 2, 20, .inr (.inr (.inr (.inr (fun i => if i < 20 then some (ra21 i) else none)))))), ((ra21 0), .inl (T 0, 72, .inl (fun _ => 0)))]) [0, 4, 5, 6, 7, 8, 9, 1, 2, 3] rfl
    have hD := hD.sub (ws' := [(a1, .inr (16, [.ref a2, .ref a3, .ref a4, .ref a5, .ref a6, .ref a7, .ref a8, .ref a9, .ref a10, .ref a11])), (a2, .inr (10, [.ref a12, .ref a13, .ref a14, .ref a15, .ref a16, .int 1, .int 1])), (a12, .inl (T 0, 12, .inl (upd (fun _ => 0) (0 : Int32).toNatClampNeg p1))), (a13, .inl (T 0, 12, .inl (upd (fun _ => 0) (0 : Int32).toNatClampNeg p2))), (a14, .inl (T 0, 12, .inl (fun _ => 0))), (a15, .inl (T 0, 12, .inl (fun _ => 0))), (a16, .inl (T 0, 12, .inl (fun _ => 0))), (a3, .inr (11, [.ref a17, .int 1, .int 1])), (a17, .inl (T 2, 20, .inr (.inr (.inr (.inr (fun i => if i < 20 then some (ra21 i) else none)))))), ((ra21 0), .inl (T 0, 72, .inl (fun _ => 0)))]) [0, 4, 5, 6, 7, 8, 9, 1, 2, 3] (by decide) rfl
    clear hPc hDc hFc hP1 hD1 hk1 hz1 ht hvm
    refine lv_iload_n hx hb dX11_addPoint_74 rfl (lv_at hl 0 rfl) ?_
    refine vx_ret ?_
    have hP9 := hP.sub (ws' := []) [] rfl
    have hD9 := hD.sub (ws' := []) [] (by decide) rfl
    exact W.iret (v := 0) hx hb hr (fun t ht hW => ⟨⟨_, _, rfl, rfl, ⟨c_2, rfl, by rw [ht]; exact hP9, hD9⟩⟩, hS.F ht⟩) hS.2.2 dX11_addPoint_75
set_option maxHeartbeats 4000000 in
set_option maxRecDepth 100000 in
theorem xcL_addPoint (l : Launch) (hst : l.stackTraces = false) (dC : Nat → ClassId) (dI : Nat → Nat → Nat) (T : Nat → ClassId) (a1 : Nat) (a2 : Nat) (a3 : Nat) (a4 : Nat) (a5 : Nat) (a6 : Nat) (a7 : Nat) (a8 : Nat) (a9 : Nat) (a10 : Nat) (a11 : Nat) (a12 : Nat) (a13 : Nat) (a14 : Nat) (a15 : Nat) (a16 : Nat) (a17 : Nat) (a18 : Nat) (sz : Nat) (p1 : Int32) (p2 : Int32) (ra21 : Nat → Nat) : Met l yL_addPoint wsL_addPoint ({ frames := 9, cells := 2, slots := 12, locals := 149 } : Room) (va_Pc [.ref a1, .int p1, .int p2, .ref a2] (fun U => xB dC dI T [(a1, .inr (16, [.ref a3, .ref a4, .ref a5, .ref a6, .ref a7, .ref a8, .ref a9, .ref a10, .ref a11, .ref a12])), (a3, .inr (10, [.ref a13, .ref a14, .ref a15, .ref a16, .ref a17, .int 0, .int 0])), (a13, .inl (T 0, 12, .inl (fun _ => 0))), (a14, .inl (T 0, 12, .inl (fun _ => 0))), (a15, .inl (T 0, 12, .inl (fun _ => 0))), (a16, .inl (T 0, 12, .inl (fun _ => 0))), (a17, .inl (T 0, 12, .inl (fun _ => 0))), (a4, .inr (11, [.ref a18, .int 0, .int 0])), (a18, .inl (T 2, 20, .inr (.inr (.inr (.inr (fun i => if i < 20 then some (ra21 i) else none)))))), ((ra21 0), .inl (T 0, 72, .inl (fun _ => 0))), (a2, .inl (T 5, 1, .inr (.inl (fun _ => 0))))] sz U)) (va_Qi (fun (r u : Int32) => r = u) (fun (u : Int32) (t : State) => ((((p1.toInt < -100) ∨ ((¬ (p1.toInt < -100)) ∧ (¬ (p1.toInt ≤ 100)))) ∨ (((¬ (p1.toInt < -100)) ∧ (p1.toInt ≤ 100)) ∧ ((p2.toInt < -100) ∨ ((¬ (p2.toInt < -100)) ∧ (¬ (p2.toInt ≤ 100)))))) ∧ 1 = u ∧ xE dC dI [(a2, .inl (T 5, 1, .inr (.inl (fun _ => 0))))] (va_A [(a1, .inr (16, [.ref a3, .ref a4, .ref a5, .ref a6, .ref a7, .ref a8, .ref a9, .ref a10, .ref a11, .ref a12])), (a3, .inr (10, [.ref a13, .ref a14, .ref a15, .ref a16, .ref a17, .int 0, .int 0])), (a13, .inl (T 0, 12, .inl (fun _ => 0))), (a14, .inl (T 0, 12, .inl (fun _ => 0))), (a15, .inl (T 0, 12, .inl (fun _ => 0))), (a16, .inl (T 0, 12, .inl (fun _ => 0))), (a17, .inl (T 0, 12, .inl (fun _ => 0))), (a4, .inr (11, [.ref a18, .int 0, .int 0])), (a18, .inl (T 2, 20, .inr (.inr (.inr (.inr (fun i => if i < 20 then some (ra21 i) else none)))))), ((ra21 0), .inl (T 0, 72, .inl (fun _ => 0))), (a2, .inl (T 5, 1, .inr (.inl (fun _ => 0))))] sz) t) ∨ ((((¬ (p1.toInt < -100)) ∧ (p1.toInt ≤ 100)) ∧ ((¬ (p2.toInt < -100)) ∧ (p2.toInt ≤ 100))) ∧ 0 = u ∧ xE dC dI [(a2, .inl (T 5, 1, .inr (.inl (vp_updL (fun _ => 0) (0 : Int32).toNatClampNeg 0))))] (va_A [(a1, .inr (16, [.ref a3, .ref a4, .ref a5, .ref a6, .ref a7, .ref a8, .ref a9, .ref a10, .ref a11, .ref a12])), (a3, .inr (10, [.ref a13, .ref a14, .ref a15, .ref a16, .ref a17, .int 0, .int 0])), (a13, .inl (T 0, 12, .inl (fun _ => 0))), (a14, .inl (T 0, 12, .inl (fun _ => 0))), (a15, .inl (T 0, 12, .inl (fun _ => 0))), (a16, .inl (T 0, 12, .inl (fun _ => 0))), (a17, .inl (T 0, 12, .inl (fun _ => 0))), (a4, .inr (11, [.ref a18, .int 0, .int 0])), (a18, .inl (T 2, 20, .inr (.inr (.inr (.inr (fun i => if i < 20 then some (ra21 i) else none)))))), ((ra21 0), .inl (T 0, 72, .inl (fun _ => 0))), (a2, .inl (T 5, 1, .inr (.inl (fun _ => 0))))] sz) t)) (va_A [(a1, .inr (16, [.ref a3, .ref a4, .ref a5, .ref a6, .ref a7, .ref a8, .ref a9, .ref a10, .ref a11, .ref a12])), (a3, .inr (10, [.ref a13, .ref a14, .ref a15, .ref a16, .ref a17, .int 0, .int 0])), (a13, .inl (T 0, 12, .inl (fun _ => 0))), (a14, .inl (T 0, 12, .inl (fun _ => 0))), (a15, .inl (T 0, 12, .inl (fun _ => 0))), (a16, .inl (T 0, 12, .inl (fun _ => 0))), (a17, .inl (T 0, 12, .inl (fun _ => 0))), (a4, .inr (11, [.ref a18, .int 0, .int 0])), (a18, .inl (T 2, 20, .inr (.inr (.inr (.inr (fun i => if i < 20 then some (ra21 i) else none)))))), ((ra21 0), .inl (T 0, 72, .inl (fun _ => 0))), (a2, .inl (T 5, 1, .inr (.inl (fun _ => 0))))] sz)) 2 12 (va_A [(a1, .inr (16, [.ref a3, .ref a4, .ref a5, .ref a6, .ref a7, .ref a8, .ref a9, .ref a10, .ref a11, .ref a12])), (a3, .inr (10, [.ref a13, .ref a14, .ref a15, .ref a16, .ref a17, .int 0, .int 0])), (a13, .inl (T 0, 12, .inl (fun _ => 0))), (a14, .inl (T 0, 12, .inl (fun _ => 0))), (a15, .inl (T 0, 12, .inl (fun _ => 0))), (a16, .inl (T 0, 12, .inl (fun _ => 0))), (a17, .inl (T 0, 12, .inl (fun _ => 0))), (a4, .inr (11, [.ref a18, .int 0, .int 0])), (a18, .inl (T 2, 20, .inr (.inr (.inr (.inr (fun i => if i < 20 then some (ra21 i) else none)))))), ((ra21 0), .inl (T 0, 72, .inl (fun _ => 0))), (a2, .inl (T 5, 1, .inr (.inl (fun _ => 0))))] sz) := by
  refine va_MetW (cc := cL_addPoint) (maxL := 5) (ret := (some .int)) (hh := [(0, 10, 13, 13), (0, 10, 17, 15), (0, 10, 21, 17)]) (by decide +kernel) rfl ?_
  intro p e s m args below meth c s₁ B hml hv
  obtain ⟨rfl, hsz, hP, hK, hD0, hG⟩ := hv
  have hx := B.exec
  have hb := B.bytes
  have hr := B.returns
  have hts := atoms_spec (ws := wsL_addPoint) B.pre
  have hown : s.vm.findClass RL = some m.cls := findClass_of_methodNamed B.named
  have hlocks := B.notSynchronized
  have htab := vx_table (x := yL_addPoint) B (hts (.codeWith yL_addPoint cL_addPoint 5 (some .int) [(0, 10, 13, 13), (0, 10, 17, 15), (0, 10, 21, 17)]) (by decide +kernel))
  subst hsz
  have hD := hD0.self (sz := s.heap.size)
  generalize hAe : va_A [(a1, .inr (16, [.ref a3, .ref a4, .ref a5, .ref a6, .ref a7, .ref a8, .ref a9, .ref a10, .ref a11, .ref a12])), (a3, .inr (10, [.ref a13, .ref a14, .ref a15, .ref a16, .ref a17, .int 0, .int 0])), (a13, .inl (T 0, 12, .inl (fun _ => 0))), (a14, .inl (T 0, 12, .inl (fun _ => 0))), (a15, .inl (T 0, 12, .inl (fun _ => 0))), (a16, .inl (T 0, 12, .inl (fun _ => 0))), (a17, .inl (T 0, 12, .inl (fun _ => 0))), (a4, .inr (11, [.ref a18, .int 0, .int 0])), (a18, .inl (T 2, 20, .inr (.inr (.inr (.inr (fun i => if i < 20 then some (ra21 i) else none)))))), ((ra21 0), .inl (T 0, 72, .inl (fun _ => 0))), (a2, .inl (T 5, 1, .inr (.inl (fun _ => 0))))] s.heap.size = A at hD hG ⊢
  have hA : ∀ q : Nat, s.heap.size ≤ q → A q := fun q h => by rw [← hAe]; exact Or.inr h
  have hS : va_S A s.heap s.heap [] := va_S.rf
  have hl := lv_entry ([.ref a1, .int p1, .int p2, .ref a2]) (n := 5) (Nat.le_of_ble_eq_true rfl)
  rw [lg_entry_eq]
  generalize (lg_sl ([.ref a1, .int p1, .int p2, .ref a2]) ++ List.replicate (5 - (lg_sl ([.ref a1, .int p1, .int p2, .ref a2])).length) Slot.unset).toArray = ls at hl ⊢
  have hl : lv_has ls 5 [(0, .ref a1), (1, .int p1), (2, .int p2), (3, .ref a2)] := hl
  refine lv_aload_n hx hb dL_addPoint_0 rfl (lv_at hl 3 rfl) ?_
  refine lv_iconst (v := 0) hx hb dL_addPoint_1 (by decide) ?_
  refine lv_aload_n hx hb dL_addPoint_2 rfl (lv_at hl 0 rfl) ?_
  refine lv_iload_n hx hb dL_addPoint_3 rfl (lv_at hl 1 rfl) ?_
  refine lv_iload_n hx hb dL_addPoint_4 rfl (lv_at hl 2 rfl) ?_
  have hPc := hP.sub (ws' := [(a1, .inr (16, [.ref a3, .ref a4, .ref a5, .ref a6, .ref a7, .ref a8, .ref a9, .ref a10, .ref a11, .ref a12])), (a3, .inr (10, [.ref a13, .ref a14, .ref a15, .ref a16, .ref a17, .int 0, .int 0])), (a13, .inl (T 0, 12, .inl (fun _ => 0))), (a14, .inl (T 0, 12, .inl (fun _ => 0))), (a15, .inl (T 0, 12, .inl (fun _ => 0))), (a16, .inl (T 0, 12, .inl (fun _ => 0))), (a17, .inl (T 0, 12, .inl (fun _ => 0))), (a4, .inr (11, [.ref a18, .int 0, .int 0])), (a18, .inl (T 2, 20, .inr (.inr (.inr (.inr (fun i => if i < 20 then some (ra21 i) else none)))))), ((ra21 0), .inl (T 0, 72, .inl (fun _ => 0)))]) [0, 1, 2, 3, 4, 5, 6, 7, 8, 9] rfl
  have hDc := hD.sub (ws' := [(a1, .inr (16, [.ref a3, .ref a4, .ref a5, .ref a6, .ref a7, .ref a8, .ref a9, .ref a10, .ref a11, .ref a12])), (a3, .inr (10, [.ref a13, .ref a14, .ref a15, .ref a16, .ref a17, .int 0, .int 0])), (a13, .inl (T 0, 12, .inl (fun _ => 0))), (a14, .inl (T 0, 12, .inl (fun _ => 0))), (a15, .inl (T 0, 12, .inl (fun _ => 0))), (a16, .inl (T 0, 12, .inl (fun _ => 0))), (a17, .inl (T 0, 12, .inl (fun _ => 0))), (a4, .inr (11, [.ref a18, .int 0, .int 0])), (a18, .inl (T 2, 20, .inr (.inr (.inr (.inr (fun i => if i < 20 then some (ra21 i) else none)))))), ((ra21 0), .inl (T 0, 72, .inl (fun _ => 0)))]) [0, 1, 2, 3, 4, 5, 6, 7, 8, 9] (by decide) rfl
  have hFc := va_free (wc := [(a1, .inr (16, [.ref a3, .ref a4, .ref a5, .ref a6, .ref a7, .ref a8, .ref a9, .ref a10, .ref a11, .ref a12])), (a3, .inr (10, [.ref a13, .ref a14, .ref a15, .ref a16, .ref a17, .int 0, .int 0])), (a13, .inl (T 0, 12, .inl (fun _ => 0))), (a14, .inl (T 0, 12, .inl (fun _ => 0))), (a15, .inl (T 0, 12, .inl (fun _ => 0))), (a16, .inl (T 0, 12, .inl (fun _ => 0))), (a17, .inl (T 0, 12, .inl (fun _ => 0))), (a4, .inr (11, [.ref a18, .int 0, .int 0])), (a18, .inl (T 2, 20, .inr (.inr (.inr (.inr (fun i => if i < 20 then some (ra21 i) else none)))))), ((ra21 0), .inl (T 0, 72, .inl (fun _ => 0)))]) hD hS hA [0, 1, 2, 3, 4, 5, 6, 7, 8, 9] rfl
  refine vx_calli (vx_runV (As := [.int p1, .int p2]) (rest := [.int 0, .ref a2]) ⟨hx, hb, hml, hown, hts⟩ (xcX11_addPoint l hst dC dI T a1 a3 a4 a5 a6 a7 a8 a9 a10 a11 a12 a13 a14 a15 a16 a17 a18 s.heap.size p1 p2 ra21) (cwV 2 hts gL_addPoint_X11_addPoint rfl rfl rfl (by decide +kernel) ⟨Nat.le_of_ble_eq_true rfl, Nat.le_of_ble_eq_true rfl⟩) ⟨xBlind, va_recv hK hPc (ci := 16) (q0 := 0) rfl rfl, xCall hK hG hS hPc hDc hFc⟩ rfl rfl hl.1 rfl (lv_room (Nat.le_of_ble_eq_true rfl)) dL_addPoint_5 ⟨Nat.le_of_ble_eq_true rfl, Nat.le_of_ble_eq_true rfl⟩) hS (fun q _ h => hFc q h) hFc (fun q _ h => hFc q h) (fun E ce q9 u t H locs ht hvm hw hB hz1 hk1 hS hce hcv hcl => ?_) (fun r_9 u t H locs ht hvm hw hB hz1 hk1 hS => ?_)
  · rcases hB with ⟨c_1, hE, hP1, hD1⟩
    subst hE
    rw [ht] at hP1
    obtain ⟨hP, hD⟩ := va_join (wr := [(a2, .inl (T 5, 1, .inr (.inl (fun _ => 0))))]) (w1 := []) hP hD [0, 1, 2, 3, 4, 5, 6, 7, 8, 9] [10] rfl rfl (by decide) (by decide) hk1 hFc hP1 hD1
    have hP : va_P (dC, dI) vwCl [(a2, .inl (T 5, 1, .inr (.inl (fun _ => 0))))] H := hP
    have hD : va_D A [(a2, .inl (T 5, 1, .inr (.inl (fun _ => 0))))] := hD
    clear hPc hDc hFc hP1 hD1 hk1 hz1 ht hvm
    refine vx_catch (E := "java/lang/IllegalArgumentException") (name := "java/lang/IllegalArgumentException") hown [] ⟨0, 10, 13, 13⟩ [⟨0, 10, 17, 15⟩, ⟨0, 10, 21, 17⟩] (htab.trans rfl) (fun _ h => absurd h List.not_mem_nil) (by decide) (by decide) (hts (.classLink RL 13 "java/lang/IllegalArgumentException") (by decide +kernel)) (xBad_use hG.2.2.2.1 _ (by decide +kernel)) hce hcv hcl ?_
    refine lv_astore (lv' := [(4, .ref q9), (0, .ref a1), (1, .int p1), (2, .int p2), (3, .ref a2)]) hx hb dL_addPoint_13 hl (by decide) rfl (fun ls hl => ?_)
    refine lv_iconst (v := 1) hx hb dL_addPoint_15 (by decide) ?_
    have hP9 := hP.sub (ws' := [(a2, .inl (T 5, 1, .inr (.inl (fun _ => 0))))]) [0] rfl
    have hD9 := hD.sub (ws' := [(a2, .inl (T 5, 1, .inr (.inl (fun _ => 0))))]) [0] (by decide) rfl
    exact W.iret (v := 1) hx hb hr (fun t ht hW => ⟨⟨_, _, rfl, rfl, (Or.inl ⟨c_1, rfl, by rw [ht]; exact hP9, hD9⟩)⟩, hS.F ht⟩) hS.2.2 dL_addPoint_16
  · subst hw
    rcases hB with ⟨c_2, hr_9, hP1, hD1⟩
    rw [ht] at hP1
    subst hr_9
    obtain ⟨hP, hD⟩ := va_join (wr := [(a2, .inl (T 5, 1, .inr (.inl (fun _ => 0))))]) (w1 := []) hP hD [0, 1, 2, 3, 4, 5, 6, 7, 8, 9] [10] rfl rfl (by decide) (by decide) hk1 hFc hP1 hD1
    have hP : va_P (dC, dI) vwCl [(a2, .inl (T 5, 1, .inr (.inl (fun _ => 0))))] H := hP
    have hD : va_D A [(a2, .inl (T 5, 1, .inr (.inl (fun _ => 0))))] := hD
    clear hPc hDc hFc hP1 hD1 hk1 hz1 ht hvm
    refine lv_i2l (v := 0) hx hb dL_addPoint_8 (by decide) ?_
    refine va_last hx hb hK hP hD hS 0 5 rfl rfl (show vp_in 0 1 by unfold vp_in; decide) dL_addPoint_9 (fun H locs hP hD hS => ?_)
    have hP : va_P (dC, dI) vwCl [(a2, .inl (T 5, 1, .inr (.inl (vp_updL (fun _ => 0) (0 : Int32).toNatClampNeg 0))))] H := hP
    have hD : va_D A [(a2, .inl (T 5, 1, .inr (.inl (vp_updL (fun _ => 0) (0 : Int32).toNatClampNeg 0))))] := hD
    refine lv_goto (tgt := 25) hx hb dL_addPoint_10 (by decide) ?_
    refine lv_iconst (v := 0) hx hb dL_addPoint_25 (by decide) ?_
    have hP9 := hP.sub (ws' := [(a2, .inl (T 5, 1, .inr (.inl (vp_updL (fun _ => 0) (0 : Int32).toNatClampNeg 0))))]) [0] rfl
    have hD9 := hD.sub (ws' := [(a2, .inl (T 5, 1, .inr (.inl (vp_updL (fun _ => 0) (0 : Int32).toNatClampNeg 0))))]) [0] (by decide) rfl
    exact W.iret (v := 0) hx hb hr (fun t ht hW => ⟨⟨_, _, rfl, rfl, (Or.inr (⟨c_2, rfl, by rw [ht]; exact hP9, hD9⟩))⟩, hS.F ht⟩) hS.2.2 dL_addPoint_26
set_option maxHeartbeats 4000000 in
set_option maxRecDepth 100000 in
theorem xcX10_append (l : Launch) (hst : l.stackTraces = false) (dC : Nat → ClassId) (dI : Nat → Nat → Nat) (T : Nat → ClassId) (a1 : Nat) (a2 : Nat) (a3 : Nat) (a4 : Nat) (a5 : Nat) (sz : Nat) (p1 : Int32) (p2 : Int32) (p3 : Int32) (p4 : Int32) : Met l yX10_append wsX10_append ({ frames := 0, cells := 0, slots := 0, locals := 0 } : Room) (va_Pc [.ref a1, .int p1, .int p2, .int p3, .int p4] (fun U => xB dC dI T [(a1, .inr (15, [.ref a2, .ref a3, .ref a4, .ref a5, .int 0])), (a2, .inl (T 0, 10, .inl (fun _ => 0))), (a3, .inl (T 0, 10, .inl (fun _ => 0))), (a4, .inl (T 0, 10, .inl (fun _ => 0))), (a5, .inl (T 0, 10, .inl (fun _ => 0)))] sz U)) (va_Qv (fun _ : Unit => True) (fun (_ : Unit) (t : State) => xE dC dI [(a1, .inr (15, [.ref a2, .ref a3, .ref a4, .ref a5, .int 1])), (a2, .inl (T 0, 10, .inl (upd (fun _ => 0) (0 : Int32).toNatClampNeg p1))), (a3, .inl (T 0, 10, .inl (upd (fun _ => 0) (0 : Int32).toNatClampNeg p2))), (a4, .inl (T 0, 10, .inl (upd (fun _ => 0) (0 : Int32).toNatClampNeg p3))), (a5, .inl (T 0, 10, .inl (upd (fun _ => 0) (0 : Int32).toNatClampNeg p4)))] (va_A [(a1, .inr (15, [.ref a2, .ref a3, .ref a4, .ref a5, .int 0])), (a2, .inl (T 0, 10, .inl (fun _ => 0))), (a3, .inl (T 0, 10, .inl (fun _ => 0))), (a4, .inl (T 0, 10, .inl (fun _ => 0))), (a5, .inl (T 0, 10, .inl (fun _ => 0)))] sz) t) (va_A [(a1, .inr (15, [.ref a2, .ref a3, .ref a4, .ref a5, .int 0])), (a2, .inl (T 0, 10, .inl (fun _ => 0))), (a3, .inl (T 0, 10, .inl (fun _ => 0))), (a4, .inl (T 0, 10, .inl (fun _ => 0))), (a5, .inl (T 0, 10, .inl (fun _ => 0)))] sz)) 0 0 (va_A [(a1, .inr (15, [.ref a2, .ref a3, .ref a4, .ref a5, .int 0])), (a2, .inl (T 0, 10, .inl (fun _ => 0))), (a3, .inl (T 0, 10, .inl (fun _ => 0))), (a4, .inl (T 0, 10, .inl (fun _ => 0))), (a5, .inl (T 0, 10, .inl (fun _ => 0)))] sz) := by
  refine Met.ofW (cc := cX10_append) (maxL := 5) (ret := none) (by decide +kernel) rfl ?_
  intro p e s m args below meth c s₁ B hml hv
  obtain ⟨rfl, hsz, hP, hK, hD0, hG⟩ := hv
  have hx := B.exec
  have hb := B.bytes
  have hr := B.returns
  have hts := atoms_spec (ws := wsX10_append) B.pre
  have hown : s.vm.findClass RX10 = some m.cls := findClass_of_methodNamed B.named
  have hlocks := B.notSynchronized
  have hin_X10 : ∀ w ∈ wsX100, w ∈ wsX10_append := by decide +kernel
  subst hsz
  have hD := hD0.self (sz := s.heap.size)
  generalize hAe : va_A [(a1, .inr (15, [.ref a2, .ref a3, .ref a4, .ref a5, .int 0])), (a2, .inl (T 0, 10, .inl (fun _ => 0))), (a3, .inl (T 0, 10, .inl (fun _ => 0))), (a4, .inl (T 0, 10, .inl (fun _ => 0))), (a5, .inl (T 0, 10, .inl (fun _ => 0)))] s.heap.size = A at hD hG ⊢
  have hA : ∀ q : Nat, s.heap.size ≤ q → A q := fun q h => by rw [← hAe]; exact Or.inr h
  have hS : va_S A s.heap s.heap [] := va_S.rf
  have hl := lv_entry ([.ref a1, .int p1, .int p2, .int p3, .int p4]) (n := 5) (Nat.le_of_ble_eq_true rfl)
  rw [lg_entry_eq]
  generalize (lg_sl ([.ref a1, .int p1, .int p2, .int p3, .int p4]) ++ List.replicate (5 - (lg_sl ([.ref a1, .int p1, .int p2, .int p3, .int p4])).length) Slot.unset).toArray = ls at hl ⊢
  have hl : lv_has ls 5 [(0, .ref a1), (1, .int p1), (2, .int p2), (3, .int p3), (4, .int p4)] := hl
  refine lv_aload_n hx hb dX10_append_0 rfl (lv_at hl 0 rfl) ?_
  refine va_get (D := (dC, dI)) (ci := 15) (v := .int 0) (C := RX10) (T := TX10) (N := 5) hx hb hts hin_X10 hown hK hP 0 rfl rfl 4 (by decide) (hts (.fieldLink RX10 24 "Nearestward$Walls" "count" "I") (by decide +kernel)) (fun _ h9 => h9) rfl dX10_append_1 ?_
  refine lv_if_lt (tgt := 16) hx hb dX10_append_4 (by decide) (fun c_1 => absurd c_1 (by decide)) (fun c_1 => ?_)
  refine lv_aload_n hx hb dX10_append_7 rfl (lv_at hl 0 rfl) ?_
  refine va_get (D := (dC, dI)) (ci := 15) (v := .int 0) (C := RX10) (T := TX10) (N := 5) hx hb hts hin_X10 hown hK hP 0 rfl rfl 4 (by decide) (hts (.fieldLink RX10 24 "Nearestward$Walls" "count" "I") (by decide +kernel)) (fun _ h9 => h9) rfl dX10_append_8 ?_
  refine lv_bipush (v := 10) hx hb dX10_append_11 (by decide) ?_
  refine lv_icmp_lt (tgt := 17) hx hb dX10_append_13 (by decide) (fun c_2 => ?_) (fun c_2 => absurd (by decide) c_2)
  refine lv_aload_n hx hb dX10_append_17 rfl (lv_at hl 0 rfl) ?_
  refine va_get (D := (dC, dI)) (ci := 15) (v := .ref a2) (C := RX10) (T := TX10) (N := 5) hx hb hts hin_X10 hown hK hP 0 rfl rfl 0 (by decide) (hts (.fieldLink RX10 9 "Nearestward$Walls" "fromXs" "[I") (by decide +kernel)) (fun _ h9 => h9) rfl dX10_append_18 ?_
  refine lv_aload_n hx hb dX10_append_21 rfl (lv_at hl 0 rfl) ?_
  refine va_get (D := (dC, dI)) (ci := 15) (v := .int 0) (C := RX10) (T := TX10) (N := 5) hx hb hts hin_X10 hown hK hP 0 rfl rfl 4 (by decide) (hts (.fieldLink RX10 24 "Nearestward$Walls" "count" "I") (by decide +kernel)) (fun _ h9 => h9) rfl dX10_append_22 ?_
  refine lv_iload_n hx hb dX10_append_25 rfl (lv_at hl 1 rfl) ?_
  refine va_iast hx hb hK hP hD hS 1 0 rfl rfl (show vp_in 0 10 by unfold vp_in; decide) dX10_append_26 (fun H locs hP hD hS => ?_)
  have hP : va_P (dC, dI) vwCl [(a1, .inr (15, [.ref a2, .ref a3, .ref a4, .ref a5, .int 0])), (a2, .inl (T 0, 10, .inl (upd (fun _ => 0) (0 : Int32).toNatClampNeg p1))), (a3, .inl (T 0, 10, .inl (fun _ => 0))), (a4, .inl (T 0, 10, .inl (fun _ => 0))), (a5, .inl (T 0, 10, .inl (fun _ => 0)))] H := hP
  have hD : va_D A [(a1, .inr (15, [.ref a2, .ref a3, .ref a4, .ref a5, .int 0])), (a2, .inl (T 0, 10, .inl (upd (fun _ => 0) (0 : Int32).toNatClampNeg p1))), (a3, .inl (T 0, 10, .inl (fun _ => 0))), (a4, .inl (T 0, 10, .inl (fun _ => 0))), (a5, .inl (T 0, 10, .inl (fun _ => 0)))] := hD
  refine lv_aload_n hx hb dX10_append_27 rfl (lv_at hl 0 rfl) ?_
  refine va_get (D := (dC, dI)) (ci := 15) (v := .ref a3) (C := RX10) (T := TX10) (N := 5) hx hb hts hin_X10 hown hK hP 0 rfl rfl 1 (by decide) (hts (.fieldLink RX10 15 "Nearestward$Walls" "fromYs" "[I") (by decide +kernel)) (fun _ h9 => h9) rfl dX10_append_28 ?_
  refine lv_aload_n hx hb dX10_append_31 rfl (lv_at hl 0 rfl) ?_
  refine va_get (D := (dC, dI)) (ci := 15) (v := .int 0) (C := RX10) (T := TX10) (N := 5) hx hb hts hin_X10 hown hK hP 0 rfl rfl 4 (by decide) (hts (.fieldLink RX10 24 "Nearestward$Walls" "count" "I") (by decide +kernel)) (fun _ h9 => h9) rfl dX10_append_32 ?_
  refine lv_iload_n hx hb dX10_append_35 rfl (lv_at hl 2 rfl) ?_
  refine va_iast hx hb hK hP hD hS 2 0 rfl rfl (show vp_in 0 10 by unfold vp_in; decide) dX10_append_36 (fun H locs hP hD hS => ?_)
  have hP : va_P (dC, dI) vwCl [(a1, .inr (15, [.ref a2, .ref a3, .ref a4, .ref a5, .int 0])), (a2, .inl (T 0, 10, .inl (upd (fun _ => 0) (0 : Int32).toNatClampNeg p1))), (a3, .inl (T 0, 10, .inl (upd (fun _ => 0) (0 : Int32).toNatClampNeg p2))), (a4, .inl (T 0, 10, .inl (fun _ => 0))), (a5, .inl (T 0, 10, .inl (fun _ => 0)))] H := hP
  have hD : va_D A [(a1, .inr (15, [.ref a2, .ref a3, .ref a4, .ref a5, .int 0])), (a2, .inl (T 0, 10, .inl (upd (fun _ => 0) (0 : Int32).toNatClampNeg p1))), (a3, .inl (T 0, 10, .inl (upd (fun _ => 0) (0 : Int32).toNatClampNeg p2))), (a4, .inl (T 0, 10, .inl (fun _ => 0))), (a5, .inl (T 0, 10, .inl (fun _ => 0)))] := hD
  refine lv_aload_n hx hb dX10_append_37 rfl (lv_at hl 0 rfl) ?_
  refine va_get (D := (dC, dI)) (ci := 15) (v := .ref a4) (C := RX10) (T := TX10) (N := 5) hx hb hts hin_X10 hown hK hP 0 rfl rfl 2 (by decide) (hts (.fieldLink RX10 18 "Nearestward$Walls" "toXs" "[I") (by decide +kernel)) (fun _ h9 => h9) rfl dX10_append_38 ?_
  refine lv_aload_n hx hb dX10_append_41 rfl (lv_at hl 0 rfl) ?_
  refine va_get (D := (dC, dI)) (ci := 15) (v := .int 0) (C := RX10) (T := TX10) (N := 5) hx hb hts hin_X10 hown hK hP 0 rfl rfl 4 (by decide) (hts (.fieldLink RX10 24 "Nearestward$Walls" "count" "I") (by decide +kernel)) (fun _ h9 => h9) rfl dX10_append_42 ?_
  refine lv_iload_n hx hb dX10_append_45 rfl (lv_at hl 3 rfl) ?_
  refine va_iast hx hb hK hP hD hS 3 0 rfl rfl (show vp_in 0 10 by unfold vp_in; decide) dX10_append_46 (fun H locs hP hD hS => ?_)
  have hP : va_P (dC, dI) vwCl [(a1, .inr (15, [.ref a2, .ref a3, .ref a4, .ref a5, .int 0])), (a2, .inl (T 0, 10, .inl (upd (fun _ => 0) (0 : Int32).toNatClampNeg p1))), (a3, .inl (T 0, 10, .inl (upd (fun _ => 0) (0 : Int32).toNatClampNeg p2))), (a4, .inl (T 0, 10, .inl (upd (fun _ => 0) (0 : Int32).toNatClampNeg p3))), (a5, .inl (T 0, 10, .inl (fun _ => 0)))] H := hP
  have hD : va_D A [(a1, .inr (15, [.ref a2, .ref a3, .ref a4, .ref a5, .int 0])), (a2, .inl (T 0, 10, .inl (upd (fun _ => 0) (0 : Int32).toNatClampNeg p1))), (a3, .inl (T 0, 10, .inl (upd (fun _ => 0) (0 : Int32).toNatClampNeg p2))), (a4, .inl (T 0, 10, .inl (upd (fun _ => 0) (0 : Int32).toNatClampNeg p3))), (a5, .inl (T 0, 10, .inl (fun _ => 0)))] := hD
  refine lv_aload_n hx hb dX10_append_47 rfl (lv_at hl 0 rfl) ?_
  refine va_get (D := (dC, dI)) (ci := 15) (v := .ref a5) (C := RX10) (T := TX10) (N := 5) hx hb hts hin_X10 hown hK hP 0 rfl rfl 3 (by decide) (hts (.fieldLink RX10 21 "Nearestward$Walls" "toYs" "[I") (by decide +kernel)) (fun _ h9 => h9) rfl dX10_append_48 ?_
  refine lv_aload_n hx hb dX10_append_51 rfl (lv_at hl 0 rfl) ?_
  refine va_get (D := (dC, dI)) (ci := 15) (v := .int 0) (C := RX10) (T := TX10) (N := 5) hx hb hts hin_X10 hown hK hP 0 rfl rfl 4 (by decide) (hts (.fieldLink RX10 24 "Nearestward$Walls" "count" "I") (by decide +kernel)) (fun _ h9 => h9) rfl dX10_append_52 ?_
  refine lv_iload hx hb dX10_append_55 (lv_at hl 4 rfl) ?_
  refine va_iast hx hb hK hP hD hS 4 0 rfl rfl (show vp_in 0 10 by unfold vp_in; decide) dX10_append_57 (fun H locs hP hD hS => ?_)
  have hP : va_P (dC, dI) vwCl [(a1, .inr (15, [.ref a2, .ref a3, .ref a4, .ref a5, .int 0])), (a2, .inl (T 0, 10, .inl (upd (fun _ => 0) (0 : Int32).toNatClampNeg p1))), (a3, .inl (T 0, 10, .inl (upd (fun _ => 0) (0 : Int32).toNatClampNeg p2))), (a4, .inl (T 0, 10, .inl (upd (fun _ => 0) (0 : Int32).toNatClampNeg p3))), (a5, .inl (T 0, 10, .inl (upd (fun _ => 0) (0 : Int32).toNatClampNeg p4)))] H := hP
  have hD : va_D A [(a1, .inr (15, [.ref a2, .ref a3, .ref a4, .ref a5, .int 0])), (a2, .inl (T 0, 10, .inl (upd (fun _ => 0) (0 : Int32).toNatClampNeg p1))), (a3, .inl (T 0, 10, .inl (upd (fun _ => 0) (0 : Int32).toNatClampNeg p2))), (a4, .inl (T 0, 10, .inl (upd (fun _ => 0) (0 : Int32).toNatClampNeg p3))), (a5, .inl (T 0, 10, .inl (upd (fun _ => 0) (0 : Int32).toNatClampNeg p4)))] := hD
  refine lv_aload_n hx hb dX10_append_58 rfl (lv_at hl 0 rfl) ?_
  refine lv_dup hx hb dX10_append_59 rfl ?_
  refine va_get (D := (dC, dI)) (ci := 15) (v := .int 0) (C := RX10) (T := TX10) (N := 5) hx hb hts hin_X10 hown hK hP 0 rfl rfl 4 (by decide) (hts (.fieldLink RX10 24 "Nearestward$Walls" "count" "I") (by decide +kernel)) (fun _ h9 => h9) rfl dX10_append_60 ?_
  refine lv_iconst (v := 1) hx hb dX10_append_63 (by decide) ?_
  refine lv_iadd hx hb dX10_append_64 ?_
  refine lv_topi (fun f_3 ef_3 => ?_)
  obtain rfl : f_3 = 1 := ef_3.trans (by decide)
  refine va_put (D := (dC, dI)) (ci := 15) (v := .int 1) (ty := .int) (C := RX10) (T := TX10) (N := 5) hx hb hts hin_X10 tyX10 tyX10_ok nmX10 hown hK hP hD hS 0 rfl rfl 4 (by decide) (hts (.fieldLink RX10 24 "Nearestward$Walls" "count" "I") (by decide +kernel)) (fun _ h9 => h9) rfl (by decide +kernel) rfl rfl (Nat.le_of_ble_eq_true rfl) dX10_append_65 (fun H locs hP hD hS => ?_)
  have hP : va_P (dC, dI) vwCl [(a1, .inr (15, [.ref a2, .ref a3, .ref a4, .ref a5, .int 1])), (a2, .inl (T 0, 10, .inl (upd (fun _ => 0) (0 : Int32).toNatClampNeg p1))), (a3, .inl (T 0, 10, .inl (upd (fun _ => 0) (0 : Int32).toNatClampNeg p2))), (a4, .inl (T 0, 10, .inl (upd (fun _ => 0) (0 : Int32).toNatClampNeg p3))), (a5, .inl (T 0, 10, .inl (upd (fun _ => 0) (0 : Int32).toNatClampNeg p4)))] H := hP
  have hD : va_D A [(a1, .inr (15, [.ref a2, .ref a3, .ref a4, .ref a5, .int 1])), (a2, .inl (T 0, 10, .inl (upd (fun _ => 0) (0 : Int32).toNatClampNeg p1))), (a3, .inl (T 0, 10, .inl (upd (fun _ => 0) (0 : Int32).toNatClampNeg p2))), (a4, .inl (T 0, 10, .inl (upd (fun _ => 0) (0 : Int32).toNatClampNeg p3))), (a5, .inl (T 0, 10, .inl (upd (fun _ => 0) (0 : Int32).toNatClampNeg p4)))] := hD
  have hP9 := hP.sub (ws' := [(a1, .inr (15, [.ref a2, .ref a3, .ref a4, .ref a5, .int 1])), (a2, .inl (T 0, 10, .inl (upd (fun _ => 0) (0 : Int32).toNatClampNeg p1))), (a3, .inl (T 0, 10, .inl (upd (fun _ => 0) (0 : Int32).toNatClampNeg p2))), (a4, .inl (T 0, 10, .inl (upd (fun _ => 0) (0 : Int32).toNatClampNeg p3))), (a5, .inl (T 0, 10, .inl (upd (fun _ => 0) (0 : Int32).toNatClampNeg p4)))]) [0, 1, 2, 3, 4] rfl
  have hD9 := hD.sub (ws' := [(a1, .inr (15, [.ref a2, .ref a3, .ref a4, .ref a5, .int 1])), (a2, .inl (T 0, 10, .inl (upd (fun _ => 0) (0 : Int32).toNatClampNeg p1))), (a3, .inl (T 0, 10, .inl (upd (fun _ => 0) (0 : Int32).toNatClampNeg p2))), (a4, .inl (T 0, 10, .inl (upd (fun _ => 0) (0 : Int32).toNatClampNeg p3))), (a5, .inl (T 0, 10, .inl (upd (fun _ => 0) (0 : Int32).toNatClampNeg p4)))]) [0, 1, 2, 3, 4] (by decide) rfl
  exact W.vret hx hb hr (fun t ht hW => ⟨⟨(), rfl, trivial, ⟨by rw [ht]; exact hP9, hD9⟩⟩, hS.F ht⟩) hS.2.2 dX10_append_68
set_option maxHeartbeats 4000000 in
set_option maxRecDepth 100000 in
theorem xcX11_addWall (l : Launch) (hst : l.stackTraces = false) (dC : Nat → ClassId) (dI : Nat → Nat → Nat) (T : Nat → ClassId) (a1 : Nat) (a2 : Nat) (a3 : Nat) (a4 : Nat) (a5 : Nat) (a6 : Nat) (a7 : Nat) (a8 : Nat) (a9 : Nat) (a10 : Nat) (a11 : Nat) (a26 : Nat) (a27 : Nat) (a28 : Nat) (a29 : Nat) (sz : Nat) (p1 : Int32) (p2 : Int32) (p3 : Int32) (p4 : Int32) : vx_Met l yX11_addWall wsX11_addWall ({ frames := 8, cells := 5, slots := 30, locals := 126 } : Room) (va_Pc [.ref a1, .int p1, .int p2, .int p3, .int p4] (fun U => xB dC dI T [(a1, .inr (16, [.ref a2, .ref a3, .ref a4, .ref a5, .ref a6, .ref a7, .ref a8, .ref a9, .ref a10, .ref a11])), (a8, .inr (15, [.ref a26, .ref a27, .ref a28, .ref a29, .int 0])), (a26, .inl (T 0, 10, .inl (fun _ => 0))), (a27, .inl (T 0, 10, .inl (fun _ => 0))), (a28, .inl (T 0, 10, .inl (fun _ => 0))), (a29, .inl (T 0, 10, .inl (fun _ => 0)))] sz U)) (va_Qi (fun (r u : Int32) => r = u) (fun (u : Int32) (t : State) => (((((¬ (p1.toInt < -100)) ∧ (p1.toInt ≤ 100)) ∧ ((¬ (p2.toInt < -100)) ∧ (p2.toInt ≤ 100))) ∧ (((¬ (p3.toInt < -100)) ∧ (p3.toInt ≤ 100)) ∧ ((¬ (p4.toInt < -100)) ∧ (p4.toInt ≤ 100))) ∧ (¬ (p1.toInt = p3.toInt))) ∨ ((((¬ (p1.toInt < -100)) ∧ (p1.toInt ≤ 100)) ∧ ((¬ (p2.toInt < -100)) ∧ (p2.toInt ≤ 100))) ∧ (((¬ (p3.toInt < -100)) ∧ (p3.toInt ≤ 100)) ∧ ((¬ (p4.toInt < -100)) ∧ (p4.toInt ≤ 100))) ∧ (p1.toInt = p3.toInt) ∧ (¬ (p2.toInt = p4.toInt)))) ∧ 0 = u ∧ xE dC dI [] (va_A [(a1, .inr (16, [.ref a2, .ref a3, .ref a4, .ref a5, .ref a6, .ref a7, .ref a8, .ref a9, .ref a10, .ref a11])), (a8, .inr (15, [.ref a26, .ref a27, .ref a28, .ref a29, .int 0])), (a26, .inl (T 0, 10, .inl (fun _ => 0))), (a27, .inl (T 0, 10, .inl (fun _ => 0))), (a28, .inl (T 0, 10, .inl (fun _ => 0))), (a29, .inl (T 0, 10, .inl (fun _ => 0)))] sz) t) (va_A [(a1, .inr (16, [.ref a2, .ref a3, .ref a4, .ref a5, .ref a6, .ref a7, .ref a8, .ref a9, .ref a10, .ref a11])), (a8, .inr (15, [.ref a26, .ref a27, .ref a28, .ref a29, .int 0])), (a26, .inl (T 0, 10, .inl (fun _ => 0))), (a27, .inl (T 0, 10, .inl (fun _ => 0))), (a28, .inl (T 0, 10, .inl (fun _ => 0))), (a29, .inl (T 0, 10, .inl (fun _ => 0)))] sz)) (vx_X (fun _ : Unit => True) (fun (E : String) (_ : Unit) (t : State) => ((((p1.toInt < -100) ∨ ((¬ (p1.toInt < -100)) ∧ (¬ (p1.toInt ≤ 100)))) ∨ (((¬ (p1.toInt < -100)) ∧ (p1.toInt ≤ 100)) ∧ ((p2.toInt < -100) ∨ ((¬ (p2.toInt < -100)) ∧ (¬ (p2.toInt ≤ 100)))))) ∨ ((((¬ (p1.toInt < -100)) ∧ (p1.toInt ≤ 100)) ∧ ((¬ (p2.toInt < -100)) ∧ (p2.toInt ≤ 100))) ∧ (((p3.toInt < -100) ∨ ((¬ (p3.toInt < -100)) ∧ (¬ (p3.toInt ≤ 100)))) ∨ (((¬ (p3.toInt < -100)) ∧ (p3.toInt ≤ 100)) ∧ ((p4.toInt < -100) ∨ ((¬ (p4.toInt < -100)) ∧ (¬ (p4.toInt ≤ 100))))))) ∨ ((((¬ (p1.toInt < -100)) ∧ (p1.toInt ≤ 100)) ∧ ((¬ (p2.toInt < -100)) ∧ (p2.toInt ≤ 100))) ∧ (((¬ (p3.toInt < -100)) ∧ (p3.toInt ≤ 100)) ∧ ((¬ (p4.toInt < -100)) ∧ (p4.toInt ≤ 100))) ∧ (p1.toInt = p3.toInt) ∧ (p2.toInt = p4.toInt))) ∧ E = "java/lang/IllegalArgumentException" ∧ xE dC dI [] (va_A [(a1, .inr (16, [.ref a2, .ref a3, .ref a4, .ref a5, .ref a6, .ref a7, .ref a8, .ref a9, .ref a10, .ref a11])), (a8, .inr (15, [.ref a26, .ref a27, .ref a28, .ref a29, .int 0])), (a26, .inl (T 0, 10, .inl (fun _ => 0))), (a27, .inl (T 0, 10, .inl (fun _ => 0))), (a28, .inl (T 0, 10, .inl (fun _ => 0))), (a29, .inl (T 0, 10, .inl (fun _ => 0)))] sz) t) (va_A [(a1, .inr (16, [.ref a2, .ref a3, .ref a4, .ref a5, .ref a6, .ref a7, .ref a8, .ref a9, .ref a10, .ref a11])), (a8, .inr (15, [.ref a26, .ref a27, .ref a28, .ref a29, .int 0])), (a26, .inl (T 0, 10, .inl (fun _ => 0))), (a27, .inl (T 0, 10, .inl (fun _ => 0))), (a28, .inl (T 0, 10, .inl (fun _ => 0))), (a29, .inl (T 0, 10, .inl (fun _ => 0)))] sz)) 5 30 (va_A [(a1, .inr (16, [.ref a2, .ref a3, .ref a4, .ref a5, .ref a6, .ref a7, .ref a8, .ref a9, .ref a10, .ref a11])), (a8, .inr (15, [.ref a26, .ref a27, .ref a28, .ref a29, .int 0])), (a26, .inl (T 0, 10, .inl (fun _ => 0))), (a27, .inl (T 0, 10, .inl (fun _ => 0))), (a28, .inl (T 0, 10, .inl (fun _ => 0))), (a29, .inl (T 0, 10, .inl (fun _ => 0)))] sz) := by
  refine vx_ofW (cc := cX11_addWall) (maxL := 5) (ret := (some .int)) (by decide +kernel) rfl ?_
  intro p e s m args below meth c s₁ B hml hex hv
  obtain ⟨rfl, hsz, hP, hK, hD0, hG⟩ := hv
  have hx := B.exec
  have hb := B.bytes
  have hr := B.returns
  have hts := atoms_spec (ws := wsX11_addWall) B.pre
  have hown : s.vm.findClass RX11 = some m.cls := findClass_of_methodNamed B.named
  have hlocks := B.notSynchronized
  have hin_X10 : ∀ w ∈ wsX100, w ∈ wsX11_addWall := by decide +kernel
  have hin_X11 : ∀ w ∈ wsX110, w ∈ wsX11_addWall := by decide +kernel
  have hm_214 : ∀ w ∈ (vx_atS RX11 214 "java/lang/IllegalArgumentException" ["java/lang/RuntimeException", "java/lang/Exception"]).filter goodWord, w ∈ wsX11_addWall := by decide +kernel
  have hat_214 : ∀ w ∈ vx_atS RX11 214 "java/lang/IllegalArgumentException" ["java/lang/RuntimeException", "java/lang/Exception"], w.before (#[.ref a1, .int p1, .int p2, .int p3, .int p4] : Array Value) s = true := vx_hat (B := xBad) (fun w hw => hts w (hm_214 w hw)) (by decide +kernel) (xBad_use hG.2.2.2.1)
  subst hsz
  have hD := hD0.self (sz := s.heap.size)
  generalize hAe : va_A [(a1, .inr (16, [.ref a2, .ref a3, .ref a4, .ref a5, .ref a6, .ref a7, .ref a8, .ref a9, .ref a10, .ref a11])), (a8, .inr (15, [.ref a26, .ref a27, .ref a28, .ref a29, .int 0])), (a26, .inl (T 0, 10, .inl (fun _ => 0))), (a27, .inl (T 0, 10, .inl (fun _ => 0))), (a28, .inl (T 0, 10, .inl (fun _ => 0))), (a29, .inl (T 0, 10, .inl (fun _ => 0)))] s.heap.size = A at hD hG ⊢
  have hA : ∀ q : Nat, s.heap.size ≤ q → A q := fun q h => by rw [← hAe]; exact Or.inr h
  have hS : va_S A s.heap s.heap [] := va_S.rf
  have hl := lv_entry ([.ref a1, .int p1, .int p2, .int p3, .int p4]) (n := 5) (Nat.le_of_ble_eq_true rfl)
  rw [lg_entry_eq]
  generalize (lg_sl ([.ref a1, .int p1, .int p2, .int p3, .int p4]) ++ List.replicate (5 - (lg_sl ([.ref a1, .int p1, .int p2, .int p3, .int p4])).length) Slot.unset).toArray = ls at hl ⊢
  have hl : lv_has ls 5 [(0, .ref a1), (1, .int p1), (2, .int p2), (3, .int p3), (4, .int p4)] := hl
  refine lv_iload_n hx hb dX11_addWall_0 rfl (lv_at hl 1 rfl) ?_
  refine lv_iload_n hx hb dX11_addWall_1 rfl (lv_at hl 2 rfl) ?_
  refine lv_bipush (v := 100) hx hb dX11_addWall_2 (by decide) ?_
  have hPc := hP.sub (ws' := []) [] rfl
  have hDc := hD.sub (ws' := []) [] (by decide) rfl
  have hFc := va_free (wc := []) hD hS hA [] rfl
  refine vx_callv (vx_runS (As := [.int p1, .int p2, .int 100]) (rest := []) ⟨hx, hb, hml, hown, hts⟩ (xcX11_needBoth l hst dC dI T s.heap.size p1 p2) (cwS 3 hts gX11_addWall_X11_needBoth rfl rfl rfl (by decide +kernel) ⟨Nat.le_of_ble_eq_true rfl, Nat.le_of_ble_eq_true rfl⟩) ⟨xBlind, xCall hK hG hS hPc hDc hFc⟩ rfl rfl hl.1 rfl (lv_room (Nat.le_of_ble_eq_true rfl)) dX11_addWall_4 ⟨Nat.le_of_ble_eq_true rfl, Nat.le_of_ble_eq_true rfl⟩) hS (fun q _ h => hFc q h) hFc (fun q _ h => hFc q h) (fun E ce q9 u t H locs ht hvm hw hB hz1 hk1 hS hce hcv hcl => ?_) (fun u t H locs ht hvm hw hB hz1 hk1 hS => ?_)
  · rcases hB with ⟨c_1, hE, hP1, hD1⟩
    subst hE
    rw [ht] at hP1
    obtain ⟨hP, hD⟩ := va_join (wr := [(a1, .inr (16, [.ref a2, .ref a3, .ref a4, .ref a5, .ref a6, .ref a7, .ref a8, .ref a9, .ref a10, .ref a11])), (a8, .inr (15, [.ref a26, .ref a27, .ref a28, .ref a29, .int 0])), (a26, .inl (T 0, 10, .inl (fun _ => 0))), (a27, .inl (T 0, 10, .inl (fun _ => 0))), (a28, .inl (T 0, 10, .inl (fun _ => 0))), (a29, .inl (T 0, 10, .inl (fun _ => 0)))]) (w1 := []) hP hD [] [0, 1, 2, 3, 4, 5] rfl rfl (by decide) (by decide) hk1 hFc hP1 hD1
    have hP : va_P (dC, dI) vwCl [(a1, .inr (16, [.ref a2, .ref a3, .ref a4, .ref a5, .ref a6, .ref a7, .ref a8, .ref a9, .ref a10, .ref a11])), (a8, .inr (15, [.ref a26, .ref a27, .ref a28, .ref a29, .int 0])), (a26, .inl (T 0, 10, .inl (fun _ => 0))), (a27, .inl (T 0, 10, .inl (fun _ => 0))), (a28, .inl (T 0, 10, .inl (fun _ => 0))), (a29, .inl (T 0, 10, .inl (fun _ => 0)))] H := hP
    have hD : va_D A [(a1, .inr (16, [.ref a2, .ref a3, .ref a4, .ref a5, .ref a6, .ref a7, .ref a8, .ref a9, .ref a10, .ref a11])), (a8, .inr (15, [.ref a26, .ref a27, .ref a28, .ref a29, .int 0])), (a26, .inl (T 0, 10, .inl (fun _ => 0))), (a27, .inl (T 0, 10, .inl (fun _ => 0))), (a28, .inl (T 0, 10, .inl (fun _ => 0))), (a29, .inl (T 0, 10, .inl (fun _ => 0)))] := hD
    clear hPc hDc hFc hP1 hD1 hk1 hz1 ht hvm
    have hP9 := hP.sub (ws' := []) [] rfl
    have hD9 := hD.sub (ws' := []) [] (by decide) rfl
    exact vx_out (fun x hx => absurd (hex x hx) id) hlocks hce hcv hcl (fun t ht _ => ⟨(), trivial, ⟨(Or.inl c_1), rfl, by rw [ht]; exact hP9, hD9⟩, hS.F ht⟩) hS.2.2 (Nat.le_of_ble_eq_true rfl) (Nat.le_of_ble_eq_true rfl)
  · rcases hB with ⟨c_2, hP1, hD1⟩
    rw [ht] at hP1
    obtain ⟨hP, hD⟩ := va_join (wr := [(a1, .inr (16, [.ref a2, .ref a3, .ref a4, .ref a5, .ref a6, .ref a7, .ref a8, .ref a9, .ref a10, .ref a11])), (a8, .inr (15, [.ref a26, .ref a27, .ref a28, .ref a29, .int 0])), (a26, .inl (T 0, 10, .inl (fun _ => 0))), (a27, .inl (T 0, 10, .inl (fun _ => 0))), (a28, .inl (T 0, 10, .inl (fun _ => 0))), (a29, .inl (T 0, 10, .inl (fun _ => 0)))]) (w1 := []) hP hD [] [0, 1, 2, 3, 4, 5] rfl rfl (by decide) (by decide) hk1 hFc hP1 hD1
    have hP : va_P (dC, dI) vwCl [(a1, .inr (16, [.ref a2, .ref a3, .ref a4, .ref a5, .ref a6, .ref a7, .ref a8, .ref a9, .ref a10, .ref a11])), (a8, .inr (15, [.ref a26, .ref a27, .ref a28, .ref a29, .int 0])), (a26, .inl (T 0, 10, .inl (fun _ => 0))), (a27, .inl (T 0, 10, .inl (fun _ => 0))), (a28, .inl (T 0, 10, .inl (fun _ => 0))), (a29, .inl (T 0, 10, .inl (fun _ => 0)))] H := hP
    have hD : va_D A [(a1, .inr (16, [.ref a2, .ref a3, .ref a4, .ref a5, .ref a6, .ref a7, .ref a8, .ref a9, .ref a10, .ref a11])), (a8, .inr (15, [.ref a26, .ref a27, .ref a28, .ref a29, .int 0])), (a26, .inl (T 0, 10, .inl (fun _ => 0))), (a27, .inl (T 0, 10, .inl (fun _ => 0))), (a28, .inl (T 0, 10, .inl (fun _ => 0))), (a29, .inl (T 0, 10, .inl (fun _ => 0)))] := hD
    clear hPc hDc hFc hP1 hD1 hk1 hz1 ht hvm
    refine lv_iload_n hx hb dX11_addWall_7 rfl (lv_at hl 3 rfl) ?_
    refine lv_iload hx hb dX11_addWall_8 (lv_at hl 4 rfl) ?_
    refine lv_bipush (v := 100) hx hb dX11_addWall_10 (by decide) ?_
    have hPc := hP.sub (ws' := []) [] rfl
    have hDc := hD.sub (ws' := []) [] (by decide) rfl
    have hFc := va_free (wc := []) hD hS hA [] rfl
    refine vx_callv (vx_runS (As := [.int p3, .int p4, .int 100]) (rest := []) ⟨hx, hb, hml, hown, hts⟩ (xcX11_needBoth l hst dC dI T H.size p3 p4) (cwS 3 hts gX11_addWall_X11_needBoth rfl rfl rfl (by decide +kernel) ⟨Nat.le_of_ble_eq_true rfl, Nat.le_of_ble_eq_true rfl⟩) ⟨xBlind, xCall hK hG hS hPc hDc hFc⟩ rfl rfl hl.1 rfl (lv_room (Nat.le_of_ble_eq_true rfl)) dX11_addWall_12 ⟨Nat.le_of_ble_eq_true rfl, Nat.le_of_ble_eq_true rfl⟩) hS (fun q _ h => hFc q h) hFc (fun q _ h => hFc q h) (fun E ce q9 u t H locs ht hvm hw hB hz1 hk1 hS hce hcv hcl => ?_) (fun u t H locs ht hvm hw hB hz1 hk1 hS => ?_)
    · rcases hB with ⟨c_3, hE, hP1, hD1⟩
      subst hE
      rw [ht] at hP1
      obtain ⟨hP, hD⟩ := va_join (wr := [(a1, .inr (16, [.ref a2, .ref a3, .ref a4, .ref a5, .ref a6, .ref a7, .ref a8, .ref a9, .ref a10, .ref a11])), (a8, .inr (15, [.ref a26, .ref a27, .ref a28, .ref a29, .int 0])), (a26, .inl (T 0, 10, .inl (fun _ => 0))), (a27, .inl (T 0, 10, .inl (fun _ => 0))), (a28, .inl (T 0, 10, .inl (fun _ => 0))), (a29, .inl (T 0, 10, .inl (fun _ => 0)))]) (w1 := []) hP hD [] [0, 1, 2, 3, 4, 5] rfl rfl (by decide) (by decide) hk1 hFc hP1 hD1
      have hP : va_P (dC, dI) vwCl [(a1, .inr (16, [.ref a2, .ref a3, .ref a4, .ref a5, .ref a6, .ref a7, .ref a8, .ref a9, .ref a10, .ref a11])), (a8, .inr (15, [.ref a26, .ref a27, .ref a28, .ref a29, .int 0])), (a26, .inl (T 0, 10, .inl (fun _ => 0))), (a27, .inl (T 0, 10, .inl (fun _ => 0))), (a28, .inl (T 0, 10, .inl (fun _ => 0))), (a29, .inl (T 0, 10, .inl (fun _ => 0)))] H := hP
      have hD : va_D A [(a1, .inr (16, [.ref a2, .ref a3, .ref a4, .ref a5, .ref a6, .ref a7, .ref a8, .ref a9, .ref a10, .ref a11])), (a8, .inr (15, [.ref a26, .ref a27, .ref a28, .ref a29, .int 0])), (a26, .inl (T 0, 10, .inl (fun _ => 0))), (a27, .inl (T 0, 10, .inl (fun _ => 0))), (a28, .inl (T 0, 10, .inl (fun _ => 0))), (a29, .inl (T 0, 10, .inl (fun _ => 0)))] := hD
      clear hPc hDc hFc hP1 hD1 hk1 hz1 ht hvm
      have hP9 := hP.sub (ws' := []) [] rfl
      have hD9 := hD.sub (ws' := []) [] (by decide) rfl
      exact vx_out (fun x hx => absurd (hex x hx) id) hlocks hce hcv hcl (fun t ht _ => ⟨(), trivial, ⟨(Or.inr (Or.inl ⟨c_2, c_3⟩)), rfl, by rw [ht]; exact hP9, hD9⟩, hS.F ht⟩) hS.2.2 (Nat.le_of_ble_eq_true rfl) (Nat.le_of_ble_eq_true rfl)
    · rcases hB with ⟨c_4, hP1, hD1⟩
      rw [ht] at hP1
      obtain ⟨hP, hD⟩ := va_join (wr := [(a1, .inr (16, [.ref a2, .ref a3, .ref a4, .ref a5, .ref a6, .ref a7, .ref a8, .ref a9, .ref a10, .ref a11])), (a8, .inr (15, [.ref a26, .ref a27, .ref a28, .ref a29, .int 0])), (a26, .inl (T 0, 10, .inl (fun _ => 0))), (a27, .inl (T 0, 10, .inl (fun _ => 0))), (a28, .inl (T 0, 10, .inl (fun _ => 0))), (a29, .inl (T 0, 10, .inl (fun _ => 0)))]) (w1 := []) hP hD [] [0, 1, 2, 3, 4, 5] rfl rfl (by decide) (by decide) hk1 hFc hP1 hD1
      have hP : va_P (dC, dI) vwCl [(a1, .inr (16, [.ref a2, .ref a3, .ref a4, .ref a5, .ref a6, .ref a7, .ref a8, .ref a9, .ref a10, .ref a11])), (a8, .inr (15, [.ref a26, .ref a27, .ref a28, .ref a29, .int 0])), (a26, .inl (T 0, 10, .inl (fun _ => 0))), (a27, .inl (T 0, 10, .inl (fun _ => 0))), (a28, .inl (T 0, 10, .inl (fun _ => 0))), (a29, .inl (T 0, 10, .inl (fun _ => 0)))] H := hP
      have hD : va_D A [(a1, .inr (16, [.ref a2, .ref a3, .ref a4, .ref a5, .ref a6, .ref a7, .ref a8, .ref a9, .ref a10, .ref a11])), (a8, .inr (15, [.ref a26, .ref a27, .ref a28, .ref a29, .int 0])), (a26, .inl (T 0, 10, .inl (fun _ => 0))), (a27, .inl (T 0, 10, .inl (fun _ => 0))), (a28, .inl (T 0, 10, .inl (fun _ => 0))), (a29, .inl (T 0, 10, .inl (fun _ => 0)))] := hD
      clear hPc hDc hFc hP1 hD1 hk1 hz1 ht hvm
      refine lv_iload_n hx hb dX11_addWall_15 rfl (lv_at hl 1 rfl) ?_
      refine lv_iload_n hx hb dX11_addWall_16 rfl (lv_at hl 3 rfl) ?_
      refine lv_icmp_ne (tgt := 37) hx hb dX11_addWall_17 (by decide) (fun c_5 => ?_) (fun c_5 => ?_)
      · have nc_5 : ¬ (p1.toInt = p3.toInt) := mt (xi_eq rfl rfl).mpr c_5
        refine lv_aload_n hx hb dX11_addWall_37 rfl (lv_at hl 0 rfl) ?_
        refine va_get (D := (dC, dI)) (ci := 16) (v := .ref a8) (C := RX11) (T := TX11) (N := 10) hx hb hts hin_X11 hown hK hP 0 rfl rfl 6 (by decide) (hts (.fieldLink RX11 54 "Nearestward" "walls" "LNearestward$Walls;") (by decide +kernel)) (fun _ h9 => h9) rfl dX11_addWall_38 ?_
        refine va_get (D := (dC, dI)) (ci := 15) (v := .int 0) (C := RX10) (T := TX10) (N := 5) hx hb hts hin_X10 hown hK hP 1 rfl rfl 4 (by decide) (hts (.fieldLink RX11 272 "Nearestward$Walls" "count" "I") (by decide +kernel)) (fun _ h9 => h9) rfl dX11_addWall_41 ?_
        refine lv_bipush (v := 10) hx hb dX11_addWall_44 (by decide) ?_
        refine lv_icmp_lt (tgt := 60) hx hb dX11_addWall_46 (by decide) (fun c_6 => ?_) (fun c_6 => absurd (by decide) c_6)
        refine lv_aload_n hx hb dX11_addWall_60 rfl (lv_at hl 0 rfl) ?_
        refine va_get (D := (dC, dI)) (ci := 16) (v := .ref a8) (C := RX11) (T := TX11) (N := 10) hx hb hts hin_X11 hown hK hP 0 rfl rfl 6 (by decide) (hts (.fieldLink RX11 54 "Nearestward" "walls" "LNearestward$Walls;") (by decide +kernel)) (fun _ h9 => h9) rfl dX11_addWall_61 ?_
        refine lv_iload_n hx hb dX11_addWall_64 rfl (lv_at hl 1 rfl) ?_
        refine lv_iload_n hx hb dX11_addWall_65 rfl (lv_at hl 2 rfl) ?_
        refine lv_iload_n hx hb dX11_addWall_66 rfl (lv_at hl 3 rfl) ?_
        refine lv_iload hx hb dX11_addWall_67 (lv_at hl 4 rfl) ?_
        have hPc := hP.sub (ws' := [(a8, .inr (15, [.ref a26, .ref a27, .ref a28, .ref a29, .int 0])), (a26, .inl (T 0, 10, .inl (fun _ => 0))), (a27, .inl (T 0, 10, .inl (fun _ => 0))), (a28, .inl (T 0, 10, .inl (fun _ => 0))), (a29, .inl (T 0, 10, .inl (fun _ => 0)))]) [1, 2, 3, 4, 5] rfl
        have hDc := hD.sub (ws' := [(a8, .inr (15, [.ref a26, .ref a27, .ref a28, .ref a29, .int 0])), (a26, .inl (T 0, 10, .inl (fun _ => 0))), (a27, .inl (T 0, 10, .inl (fun _ => 0))), (a28, .inl (T 0, 10, .inl (fun _ => 0))), (a29, .inl (T 0, 10, .inl (fun _ => 0)))]) [1, 2, 3, 4, 5] (by decide) rfl
        have hFc := va_free (wc := [(a8, .inr (15, [.ref a26, .ref a27, .ref a28, .ref a29, .int 0])), (a26, .inl (T 0, 10, .inl (fun _ => 0))), (a27, .inl (T 0, 10, .inl (fun _ => 0))), (a28, .inl (T 0, 10, .inl (fun _ => 0))), (a29, .inl (T 0, 10, .inl (fun _ => 0)))]) hD hS hA [1, 2, 3, 4, 5] rfl
        refine va_callv (va_runV (As := [.int p1, .int p2, .int p3, .int p4]) (rest := []) ⟨hx, hb, hml, hown, hts⟩ (xcX10_append l hst dC dI T a8 a26 a27 a28 a29 H.size p1 p2 p3 p4) (cwV 4 hts gX11_addWall_X10_append rfl rfl rfl (by decide +kernel) ⟨Nat.le_of_ble_eq_true rfl, Nat.le_of_ble_eq_true rfl⟩) ⟨xBlind, va_recv hK hPc (ci := 15) (q0 := 0) rfl rfl, xCall hK hG hS hPc hDc hFc⟩ rfl rfl hl.1 rfl (lv_room (Nat.le_of_ble_eq_true rfl)) dX11_addWall_69 ⟨Nat.le_of_ble_eq_true rfl, Nat.le_of_ble_eq_true rfl⟩) hS (fun q _ h => hFc q h) hFc (fun u t H locs ht hvm hw hB hz1 hk1 hS => ?_)
        rcases hB with ⟨hP1, hD1⟩
        rw [ht] at hP1
        obtain ⟨hP, hD⟩ := va_join (wr := [(a1, .inr (16, [.ref a2, .ref a3, .ref a4, .ref a5, .ref a6, .ref a7, .ref a8, .ref a9, .ref a10, .ref a11]))]) (w1 := [(a8, .inr (15, [.ref a26, .ref a27, .ref a28, .ref a29, .int 1])), (a26, .inl (T 0, 10, .inl (upd (fun _ => 0) (0 : Int32).toNatClampNeg p1))), (a27, .inl (T 0, 10, .inl (upd (fun _ => 0) (0 : Int32).toNatClampNeg p2))), (a28, .inl (T 0, 10, .inl (upd (fun _ => 0) (0 : Int32).toNatClampNeg p3))), (a29, .inl (T 0, 10, .inl (upd (fun _ => 0) (0 : Int32).toNatClampNeg p4)))]) hP hD [1, 2, 3, 4, 5] [0] rfl rfl (by decide) (by decide) hk1 hFc hP1 hD1
        have hP : va_P (dC, dI) vwCl [(a1, .inr (16, [.ref a2, .ref a3, .ref a4, .ref a5, .ref a6, .ref a7, .ref a8, .ref a9, .ref a10, .ref a11])), (a8, .inr (15, [.ref a26, .ref a27, .ref a28, .ref a29, .int 1])), (a26, .inl (T 0, 10, .inl (upd (fun _ => 0) (0 : Int32).toNatClampNeg p1))), (a27, .inl (T 0, 10, .inl (upd (fun _ => 0) (0 : Int32).toNatClampNeg p2))), (a28, .inl (T 0, 10, .inl (upd (fun _ => 0) (0 : Int32).toNatClampNeg p3))), (a29, .inl (T 0, 10, .inl (upd (fun _ => 0) (0 : Int32).toNatClampNeg p4)))] H := hP
        have hD : va_D A [(a1, .inr (16, [.ref a2, .ref a3, .ref a4, .ref a5, .ref a6, .ref a7, .ref a8, .ref a9, .ref a10, .ref a11])), (a8, .inr (15, [.ref a26, .ref a27, .ref a28, .ref a29, .int 1])), (a26, .inl (T 0, 10, .inl (upd (fun _ => 0) (0 : Int32).toNatClampNeg p1))), (a27, .inl (T 0, 10, .inl (upd (fun _ => 0) (0 : Int32).toNatClampNeg p2))), (a28, .inl (T 0, 10, .inl (upd (fun _ => 0) (0 : Int32).toNatClampNeg p3))), (a29, .inl (T 0, 10, .inl (upd (fun _ => 0) (0 : Int32).toNatClampNeg p4)))] := hD
        clear hPc hDc hFc hP1 hD1 hk1 hz1 ht hvm
        refine lv_aload_n hx hb dX11_addWall_72 rfl (lv_at hl 0 rfl) ?_
        refine va_get (D := (dC, dI)) (ci := 16) (v := .ref a8) (C := RX11) (T := TX11) (N := 10) hx hb hts hin_X11 hown hK hP 0 rfl rfl 6 (by decide) (hts (.fieldLink RX11 54 "Nearestward" "walls" "LNearestward$Walls;") (by decide +kernel)) (fun _ h9 => h9) rfl dX11_addWall_73 ?_
        refine va_get (D := (dC, dI)) (ci := 15) (v := .int 1) (C := RX10) (T := TX10) (N := 5) hx hb hts hin_X10 hown hK hP 1 rfl rfl 4 (by decide) (hts (.fieldLink RX11 272 "Nearestward$Walls" "count" "I") (by decide +kernel)) (fun _ h9 => h9) rfl dX11_addWall_76 ?_
        refine lv_iconst (v := 1) hx hb dX11_addWall_79 (by decide) ?_
        refine lv_isub hx hb dX11_addWall_80 ?_
        refine lv_topi (fun f_8 ef_8 => ?_)
        obtain rfl : f_8 = 0 := ef_8.trans (by decide)
        refine vx_ret ?_
        have hP9 := hP.sub (ws' := []) [] rfl
        have hD9 := hD.sub (ws' := []) [] (by decide) rfl
        refine W.widen (k := 5) (n := 30) (Nat.le_of_ble_eq_true rfl) (Nat.le_of_ble_eq_true rfl) ?_
        exact W.iret (v := 0) hx hb hr (fun t ht hW => ⟨⟨_, _, rfl, rfl, ⟨(Or.inl ⟨c_2, c_4, nc_5⟩), rfl, by rw [ht]; exact hP9, hD9⟩⟩, hS.F ht⟩) hS.2.2 dX11_addWall_81
      · have nc_5 : p1.toInt = p3.toInt := (xi_eq rfl rfl).mp c_5
        refine lv_iload_n hx hb dX11_addWall_20 rfl (lv_at hl 2 rfl) ?_
        refine lv_iload hx hb dX11_addWall_21 (lv_at hl 4 rfl) ?_
        refine lv_icmp_ne (tgt := 37) hx hb dX11_addWall_23 (by decide) (fun c_9 => ?_) (fun c_9 => ?_)
        · have nc_9 : ¬ (p2.toInt = p4.toInt) := mt (xi_eq rfl rfl).mpr c_9
          refine lv_aload_n hx hb dX11_addWall_37 rfl (lv_at hl 0 rfl) ?_
          refine va_get (D := (dC, dI)) (ci := 16) (v := .ref a8) (C := RX11) (T := TX11) (N := 10) hx hb hts hin_X11 hown hK hP 0 rfl rfl 6 (by decide) (hts (.fieldLink RX11 54 "Nearestward" "walls" "LNearestward$Walls;") (by decide +kernel)) (fun _ h9 => h9) rfl dX11_addWall_38 ?_
          refine va_get (D := (dC, dI)) (ci := 15) (v := .int 0) (C := RX10) (T := TX10) (N := 5) hx hb hts hin_X10 hown hK hP 1 rfl rfl 4 (by decide) (hts (.fieldLink RX11 272 "Nearestward$Walls" "count" "I") (by decide +kernel)) (fun _ h9 => h9) rfl dX11_addWall_41 ?_
          refine lv_bipush (v := 10) hx hb dX11_addWall_44 (by decide) ?_
          refine lv_icmp_lt (tgt := 60) hx hb dX11_addWall_46 (by decide) (fun c_10 => ?_) (fun c_10 => absurd (by decide) c_10)
          refine lv_aload_n hx hb dX11_addWall_60 rfl (lv_at hl 0 rfl) ?_
          refine va_get (D := (dC, dI)) (ci := 16) (v := .ref a8) (C := RX11) (T := TX11) (N := 10) hx hb hts hin_X11 hown hK hP 0 rfl rfl 6 (by decide) (hts (.fieldLink RX11 54 "Nearestward" "walls" "LNearestward$Walls;") (by decide +kernel)) (fun _ h9 => h9) rfl dX11_addWall_61 ?_
          refine lv_iload_n hx hb dX11_addWall_64 rfl (lv_at hl 1 rfl) ?_
          refine lv_iload_n hx hb dX11_addWall_65 rfl (lv_at hl 2 rfl) ?_
          refine lv_iload_n hx hb dX11_addWall_66 rfl (lv_at hl 3 rfl) ?_
          refine lv_iload hx hb dX11_addWall_67 (lv_at hl 4 rfl) ?_
          have hPc := hP.sub (ws' := [(a8, .inr (15, [.ref a26, .ref a27, .ref a28, .ref a29, .int 0])), (a26, .inl (T 0, 10, .inl (fun _ => 0))), (a27, .inl (T 0, 10, .inl (fun _ => 0))), (a28, .inl (T 0, 10, .inl (fun _ => 0))), (a29, .inl (T 0, 10, .inl (fun _ => 0)))]) [1, 2, 3, 4, 5] rfl
          have hDc := hD.sub (ws' := [(a8, .inr (15, [.ref a26, .ref a27, .ref a28, .ref a29, .int 0])), (a26, .inl (T 0, 10, .inl (fun _ => 0))), (a27, .inl (T 0, 10, .inl (fun _ => 0))), (a28, .inl (T 0, 10, .inl (fun _ => 0))), (a29, .inl (T 0, 10, .inl (fun _ => 0)))]) [1, 2, 3, 4, 5] (by decide) rfl
          have hFc := va_free (wc := [(a8, .inr (15, [.ref a26, .ref a27, .ref a28, .ref a29, .int 0])), (a26, .inl (T 0, 10, .inl (fun _ => 0))), (a27, .inl (T 0, 10, .inl (fun _ => 0))), (a28, .inl (T 0, 10, .inl (fun _ => 0))), (a29, .inl (T 0, 10, .inl (fun _ => 0)))]) hD hS hA [1, 2, 3, 4, 5] rfl
          refine va_callv (va_runV (As := [.int p1, .int p2, .int p3, .int p4]) (rest := []) ⟨hx, hb, hml, hown, hts⟩ (xcX10_append l hst dC dI T a8 a26 a27 a28 a29 H.size p1 p2 p3 p4) (cwV 4 hts gX11_addWall_X10_append rfl rfl rfl (by decide +kernel) ⟨Nat.le_of_ble_eq_true rfl, Nat.le_of_ble_eq_true rfl⟩) ⟨xBlind, va_recv hK hPc (ci := 15) (q0 := 0) rfl rfl, xCall hK hG hS hPc hDc hFc⟩ rfl rfl hl.1 rfl (lv_room (Nat.le_of_ble_eq_true rfl)) dX11_addWall_69 ⟨Nat.le_of_ble_eq_true rfl, Nat.le_of_ble_eq_true rfl⟩) hS (fun q _ h => hFc q h) hFc (fun u t H locs ht hvm hw hB hz1 hk1 hS => ?_)
          rcases hB with ⟨hP1, hD1⟩
          rw [ht] at hP1
          obtain ⟨hP, hD⟩ := va_join (wr := [(a1, .inr (16, [.ref a2, .ref a3, .ref a4, .ref a5, .ref a6, .ref a7, .ref a8, .ref a9, .ref a10, .ref a11]))]) (w1 := [(a8, .inr (15, [.ref a26, .ref a27, .ref a28, .ref a29, .int 1])), (a26, .inl (T 0, 10, .inl (upd (fun _ => 0) (0 : Int32).toNatClampNeg p1))), (a27, .inl (T 0, 10, .inl (upd (fun _ => 0) (0 : Int32).toNatClampNeg p2))), (a28, .inl (T 0, 10, .inl (upd (fun _ => 0) (0 : Int32).toNatClampNeg p3))), (a29, .inl (T 0, 10, .inl (upd (fun _ => 0) (0 : Int32).toNatClampNeg p4)))]) hP hD [1, 2, 3, 4, 5] [0] rfl rfl (by decide) (by decide) hk1 hFc hP1 hD1
          have hP : va_P (dC, dI) vwCl [(a1, .inr (16, [.ref a2, .ref a3, .ref a4, .ref a5, .ref a6, .ref a7, .ref a8, .ref a9, .ref a10, .ref a11])), (a8, .inr (15, [.ref a26, .ref a27, .ref a28, .ref a29, .int 1])), (a26, .inl (T 0, 10, .inl (upd (fun _ => 0) (0 : Int32).toNatClampNeg p1))), (a27, .inl (T 0, 10, .inl (upd (fun _ => 0) (0 : Int32).toNatClampNeg p2))), (a28, .inl (T 0, 10, .inl (upd (fun _ => 0) (0 : Int32).toNatClampNeg p3))), (a29, .inl (T 0, 10, .inl (upd (fun _ => 0) (0 : Int32).toNatClampNeg p4)))] H := hP
          have hD : va_D A [(a1, .inr (16, [.ref a2, .ref a3, .ref a4, .ref a5, .ref a6, .ref a7, .ref a8, .ref a9, .ref a10, .ref a11])), (a8, .inr (15, [.ref a26, .ref a27, .ref a28, .ref a29, .int 1])), (a26, .inl (T 0, 10, .inl (upd (fun _ => 0) (0 : Int32).toNatClampNeg p1))), (a27, .inl (T 0, 10, .inl (upd (fun _ => 0) (0 : Int32).toNatClampNeg p2))), (a28, .inl (T 0, 10, .inl (upd (fun _ => 0) (0 : Int32).toNatClampNeg p3))), (a29, .inl (T 0, 10, .inl (upd (fun _ => 0) (0 : Int32).toNatClampNeg p4)))] := hD
          clear hPc hDc hFc hP1 hD1 hk1 hz1 ht hvm
          refine lv_aload_n hx hb dX11_addWall_72 rfl (lv_at hl 0 rfl) ?_
          refine va_get (D := (dC, dI)) (ci := 16) (v := .ref a8) (C := RX11) (T := TX11) (N := 10) hx hb hts hin_X11 hown hK hP 0 rfl rfl 6 (by decide) (hts (.fieldLink RX11 54 "Nearestward" "walls" "LNearestward$Walls;") (by decide +kernel)) (fun _ h9 => h9) rfl dX11_addWall_73 ?_
          refine va_get (D := (dC, dI)) (ci := 15) (v := .int 1) (C := RX10) (T := TX10) (N := 5) hx hb hts hin_X10 hown hK hP 1 rfl rfl 4 (by decide) (hts (.fieldLink RX11 272 "Nearestward$Walls" "count" "I") (by decide +kernel)) (fun _ h9 => h9) rfl dX11_addWall_76 ?_
          refine lv_iconst (v := 1) hx hb dX11_addWall_79 (by decide) ?_
          refine lv_isub hx hb dX11_addWall_80 ?_
          refine lv_topi (fun f_12 ef_12 => ?_)
          obtain rfl : f_12 = 0 := ef_12.trans (by decide)
          refine vx_ret ?_
          have hP9 := hP.sub (ws' := []) [] rfl
          have hD9 := hD.sub (ws' := []) [] (by decide) rfl
          refine W.widen (k := 5) (n := 30) (Nat.le_of_ble_eq_true rfl) (Nat.le_of_ble_eq_true rfl) ?_
          exact W.iret (v := 0) hx hb hr (fun t ht hW => ⟨⟨_, _, rfl, rfl, ⟨(Or.inr (⟨c_2, c_4, nc_5, nc_9⟩)), rfl, by rw [ht]; exact hP9, hD9⟩⟩, hS.F ht⟩) hS.2.2 dX11_addWall_81
        · have nc_9 : p2.toInt = p4.toInt := (xi_eq rfl rfl).mp c_9
          obtain ⟨sa, hsa⟩ := hG.2.2.2.2.1 (RX11, 270, "both ends are the same") (by decide +kernel)
          have hP9 := hP.sub (ws' := []) [] rfl
          have hD9 := hD.sub (ws' := []) [] (by decide) rfl
          exact vx_throwSW (cls := "java/lang/IllegalArgumentException") (names := ["java/lang/RuntimeException", "java/lang/Exception"]) (text := "both ends are the same") (ic := 214) hx hb hst hown (by decide +kernel) (by decide +kernel) (hts (.classLink RX11 210 "java/lang/IllegalArgumentException") (by decide +kernel)) (hts (.initialized "java/lang/IllegalArgumentException") (by decide +kernel)) hsa hat_214 (by decide +kernel) hG.1 hG.2.1 hS (by rw [hml]; exact hl.1) dX11_addWall_26 dX11_addWall_29 dX11_addWall_30 dX11_addWall_33 dX11_addWall_36 (fun x hx => absurd (hex x hx) id) (Nat.le_of_ble_eq_true rfl) (Nat.le_of_ble_eq_true rfl) (Nat.le_of_ble_eq_true rfl) (Nat.le_of_ble_eq_true rfl) hlocks (fun t hvm hz1 hk1 => ⟨(), trivial, ⟨(Or.inr (Or.inr (⟨c_2, c_4, nc_5, nc_9⟩))), rfl, hP9.kept (fun k x hx => hk1 x.1 ((hP9 k x hx).lt)), hD9⟩, xthrF hS hz1 hk1⟩) hS.2.2 (Nat.le_of_ble_eq_true rfl) (Nat.le_of_ble_eq_true rfl)
set_option maxHeartbeats 4000000 in
set_option maxRecDepth 100000 in
theorem xcL_addWall (l : Launch) (hst : l.stackTraces = false) (dC : Nat → ClassId) (dI : Nat → Nat → Nat) (T : Nat → ClassId) (a1 : Nat) (a2 : Nat) (a3 : Nat) (a4 : Nat) (a5 : Nat) (a6 : Nat) (a7 : Nat) (a8 : Nat) (a9 : Nat) (a10 : Nat) (a11 : Nat) (a12 : Nat) (a27 : Nat) (a28 : Nat) (a29 : Nat) (a30 : Nat) (sz : Nat) (p1 : Int32) (p2 : Int32) (p3 : Int32) (p4 : Int32) : Met l yL_addWall wsL_addWall ({ frames := 9, cells := 5, slots := 30, locals := 150 } : Room) (va_Pc [.ref a1, .int p1, .int p2, .int p3, .int p4, .ref a2] (fun U => xB dC dI T [(a1, .inr (16, [.ref a3, .ref a4, .ref a5, .ref a6, .ref a7, .ref a8, .ref a9, .ref a10, .ref a11, .ref a12])), (a9, .inr (15, [.ref a27, .ref a28, .ref a29, .ref a30, .int 0])), (a27, .inl (T 0, 10, .inl (fun _ => 0))), (a28, .inl (T 0, 10, .inl (fun _ => 0))), (a29, .inl (T 0, 10, .inl (fun _ => 0))), (a30, .inl (T 0, 10, .inl (fun _ => 0))), (a2, .inl (T 5, 1, .inr (.inl (fun _ => 0))))] sz U)) (va_Qi (fun (r u : Int32) => r = u) (fun (u : Int32) (t : State) => (((((p1.toInt < -100) ∨ ((¬ (p1.toInt < -100)) ∧ (¬ (p1.toInt ≤ 100)))) ∨ (((¬ (p1.toInt < -100)) ∧ (p1.toInt ≤ 100)) ∧ ((p2.toInt < -100) ∨ ((¬ (p2.toInt < -100)) ∧ (¬ (p2.toInt ≤ 100)))))) ∨ ((((¬ (p1.toInt < -100)) ∧ (p1.toInt ≤ 100)) ∧ ((¬ (p2.toInt < -100)) ∧ (p2.toInt ≤ 100))) ∧ (((p3.toInt < -100) ∨ ((¬ (p3.toInt < -100)) ∧ (¬ (p3.toInt ≤ 100)))) ∨ (((¬ (p3.toInt < -100)) ∧ (p3.toInt ≤ 100)) ∧ ((p4.toInt < -100) ∨ ((¬ (p4.toInt < -100)) ∧ (¬ (p4.toInt ≤ 100))))))) ∨ ((((¬ (p1.toInt < -100)) ∧ (p1.toInt ≤ 100)) ∧ ((¬ (p2.toInt < -100)) ∧ (p2.toInt ≤ 100))) ∧ (((¬ (p3.toInt < -100)) ∧ (p3.toInt ≤ 100)) ∧ ((¬ (p4.toInt < -100)) ∧ (p4.toInt ≤ 100))) ∧ (p1.toInt = p3.toInt) ∧ (p2.toInt = p4.toInt))) ∧ 1 = u ∧ xE dC dI [(a2, .inl (T 5, 1, .inr (.inl (fun _ => 0))))] (va_A [(a1, .inr (16, [.ref a3, .ref a4, .ref a5, .ref a6, .ref a7, .ref a8, .ref a9, .ref a10, .ref a11, .ref a12])), (a9, .inr (15, [.ref a27, .ref a28, .ref a29, .ref a30, .int 0])), (a27, .inl (T 0, 10, .inl (fun _ => 0))), (a28, .inl (T 0, 10, .inl (fun _ => 0))), (a29, .inl (T 0, 10, .inl (fun _ => 0))), (a30, .inl (T 0, 10, .inl (fun _ => 0))), (a2, .inl (T 5, 1, .inr (.inl (fun _ => 0))))] sz) t) ∨ ((((((¬ (p1.toInt < -100)) ∧ (p1.toInt ≤ 100)) ∧ ((¬ (p2.toInt < -100)) ∧ (p2.toInt ≤ 100))) ∧ (((¬ (p3.toInt < -100)) ∧ (p3.toInt ≤ 100)) ∧ ((¬ (p4.toInt < -100)) ∧ (p4.toInt ≤ 100))) ∧ (¬ (p1.toInt = p3.toInt))) ∨ ((((¬ (p1.toInt < -100)) ∧ (p1.toInt ≤ 100)) ∧ ((¬ (p2.toInt < -100)) ∧ (p2.toInt ≤ 100))) ∧ (((¬ (p3.toInt < -100)) ∧ (p3.toInt ≤ 100)) ∧ ((¬ (p4.toInt < -100)) ∧ (p4.toInt ≤ 100))) ∧ (p1.toInt = p3.toInt) ∧ (¬ (p2.toInt = p4.toInt)))) ∧ 0 = u ∧ xE dC dI [(a2, .inl (T 5, 1, .inr (.inl (vp_updL (fun _ => 0) (0 : Int32).toNatClampNeg 0))))] (va_A [(a1, .inr (16, [.ref a3, .ref a4, .ref a5, .ref a6, .ref a7, .ref a8, .ref a9, .ref a10, .ref a11, .ref a12])), (a9, .inr (15, [.ref a27, .ref a28, .ref a29, .ref a30, .int 0])), (a27, .inl (T 0, 10, .inl (fun _ => 0))), (a28, .inl (T 0, 10, .inl (fun _ => 0))), (a29, .inl (T 0, 10, .inl (fun _ => 0))), (a30, .inl (T 0, 10, .inl (fun _ => 0))), (a2, .inl (T 5, 1, .inr (.inl (fun _ => 0))))] sz) t)) (va_A [(a1, .inr (16, [.ref a3, .ref a4, .ref a5, .ref a6, .ref a7, .ref a8, .ref a9, .ref a10, .ref a11, .ref a12])), (a9, .inr (15, [.ref a27, .ref a28, .ref a29, .ref a30, .int 0])), (a27, .inl (T 0, 10, .inl (fun _ => 0))), (a28, .inl (T 0, 10, .inl (fun _ => 0))), (a29, .inl (T 0, 10, .inl (fun _ => 0))), (a30, .inl (T 0, 10, .inl (fun _ => 0))), (a2, .inl (T 5, 1, .inr (.inl (fun _ => 0))))] sz)) 5 30 (va_A [(a1, .inr (16, [.ref a3, .ref a4, .ref a5, .ref a6, .ref a7, .ref a8, .ref a9, .ref a10, .ref a11, .ref a12])), (a9, .inr (15, [.ref a27, .ref a28, .ref a29, .ref a30, .int 0])), (a27, .inl (T 0, 10, .inl (fun _ => 0))), (a28, .inl (T 0, 10, .inl (fun _ => 0))), (a29, .inl (T 0, 10, .inl (fun _ => 0))), (a30, .inl (T 0, 10, .inl (fun _ => 0))), (a2, .inl (T 5, 1, .inr (.inl (fun _ => 0))))] sz) := by
  refine va_MetW (cc := cL_addWall) (maxL := 7) (ret := (some .int)) (hh := [(0, 14, 17, 13), (0, 14, 21, 17)]) (by decide +kernel) rfl ?_
  intro p e s m args below meth c s₁ B hml hv
  obtain ⟨rfl, hsz, hP, hK, hD0, hG⟩ := hv
  have hx := B.exec
  have hb := B.bytes
  have hr := B.returns
  have hts := atoms_spec (ws := wsL_addWall) B.pre
  have hown : s.vm.findClass RL = some m.cls := findClass_of_methodNamed B.named
  have hlocks := B.notSynchronized
  have htab := vx_table (x := yL_addWall) B (hts (.codeWith yL_addWall cL_addWall 7 (some .int) [(0, 14, 17, 13), (0, 14, 21, 17)]) (by decide +kernel))
  subst hsz
  have hD := hD0.self (sz := s.heap.size)
  generalize hAe : va_A [(a1, .inr (16, [.ref a3, .ref a4, .ref a5, .ref a6, .ref a7, .ref a8, .ref a9, .ref a10, .ref a11, .ref a12])), (a9, .inr (15, [.ref a27, .ref a28, .ref a29, .ref a30, .int 0])), (a27, .inl (T 0, 10, .inl (fun _ => 0))), (a28, .inl (T 0, 10, .inl (fun _ => 0))), (a29, .inl (T 0, 10, .inl (fun _ => 0))), (a30, .inl (T 0, 10, .inl (fun _ => 0))), (a2, .inl (T 5, 1, .inr (.inl (fun _ => 0))))] s.heap.size = A at hD hG ⊢
  have hA : ∀ q : Nat, s.heap.size ≤ q → A q := fun q h => by rw [← hAe]; exact Or.inr h
  have hS : va_S A s.heap s.heap [] := va_S.rf
  have hl := lv_entry ([.ref a1, .int p1, .int p2, .int p3, .int p4, .ref a2]) (n := 7) (Nat.le_of_ble_eq_true rfl)
  rw [lg_entry_eq]
  generalize (lg_sl ([.ref a1, .int p1, .int p2, .int p3, .int p4, .ref a2]) ++ List.replicate (7 - (lg_sl ([.ref a1, .int p1, .int p2, .int p3, .int p4, .ref a2])).length) Slot.unset).toArray = ls at hl ⊢
  have hl : lv_has ls 7 [(0, .ref a1), (1, .int p1), (2, .int p2), (3, .int p3), (4, .int p4), (5, .ref a2)] := hl
  refine lv_aload hx hb dL_addWall_0 (lv_at hl 5 rfl) ?_
  refine lv_iconst (v := 0) hx hb dL_addWall_2 (by decide) ?_
  refine lv_aload_n hx hb dL_addWall_3 rfl (lv_at hl 0 rfl) ?_
  refine lv_iload_n hx hb dL_addWall_4 rfl (lv_at hl 1 rfl) ?_
  refine lv_iload_n hx hb dL_addWall_5 rfl (lv_at hl 2 rfl) ?_
  refine lv_iload_n hx hb dL_addWall_6 rfl (lv_at hl 3 rfl) ?_
  refine lv_iload hx hb dL_addWall_7 (lv_at hl 4 rfl) ?_
  have hPc := hP.sub (ws' := [(a1, .inr (16, [.ref a3, .ref a4, .ref a5, .ref a6, .ref a7, .ref a8, .ref a9, .ref a10, .ref a11, .ref a12])), (a9, .inr (15, [.ref a27, .ref a28, .ref a29, .ref a30, .int 0])), (a27, .inl (T 0, 10, .inl (fun _ => 0))), (a28, .inl (T 0, 10, .inl (fun _ => 0))), (a29, .inl (T 0, 10, .inl (fun _ => 0))), (a30, .inl (T 0, 10, .inl (fun _ => 0)))]) [0, 1, 2, 3, 4, 5] rfl
  have hDc := hD.sub (ws' := [(a1, .inr (16, [.ref a3, .ref a4, .ref a5, .ref a6, .ref a7, .ref a8, .ref a9, .ref a10, .ref a11, .ref a12])), (a9, .inr (15, [.ref a27, .ref a28, .ref a29, .ref a30, .int 0])), (a27, .inl (T 0, 10, .inl (fun _ => 0))), (a28, .inl (T 0, 10, .inl (fun _ => 0))), (a29, .inl (T 0, 10, .inl (fun _ => 0))), (a30, .inl (T 0, 10, .inl (fun _ => 0)))]) [0, 1, 2, 3, 4, 5] (by decide) rfl
  have hFc := va_free (wc := [(a1, .inr (16, [.ref a3, .ref a4, .ref a5, .ref a6, .ref a7, .ref a8, .ref a9, .ref a10, .ref a11, .ref a12])), (a9, .inr (15, [.ref a27, .ref a28, .ref a29, .ref a30, .int 0])), (a27, .inl (T 0, 10, .inl (fun _ => 0))), (a28, .inl (T 0, 10, .inl (fun _ => 0))), (a29, .inl (T 0, 10, .inl (fun _ => 0))), (a30, .inl (T 0, 10, .inl (fun _ => 0)))]) hD hS hA [0, 1, 2, 3, 4, 5] rfl
  refine vx_calli (vx_runV (As := [.int p1, .int p2, .int p3, .int p4]) (rest := [.int 0, .ref a2]) ⟨hx, hb, hml, hown, hts⟩ (xcX11_addWall l hst dC dI T a1 a3 a4 a5 a6 a7 a8 a9 a10 a11 a12 a27 a28 a29 a30 s.heap.size p1 p2 p3 p4) (cwV 4 hts gL_addWall_X11_addWall rfl rfl rfl (by decide +kernel) ⟨Nat.le_of_ble_eq_true rfl, Nat.le_of_ble_eq_true rfl⟩) ⟨xBlind, va_recv hK hPc (ci := 16) (q0 := 0) rfl rfl, xCall hK hG hS hPc hDc hFc⟩ rfl rfl hl.1 rfl (lv_room (Nat.le_of_ble_eq_true rfl)) dL_addWall_9 ⟨Nat.le_of_ble_eq_true rfl, Nat.le_of_ble_eq_true rfl⟩) hS (fun q _ h => hFc q h) hFc (fun q _ h => hFc q h) (fun E ce q9 u t H locs ht hvm hw hB hz1 hk1 hS hce hcv hcl => ?_) (fun r_9 u t H locs ht hvm hw hB hz1 hk1 hS => ?_)
  · rcases hB with ⟨c_1, hE, hP1, hD1⟩
    subst hE
    rw [ht] at hP1
    obtain ⟨hP, hD⟩ := va_join (wr := [(a2, .inl (T 5, 1, .inr (.inl (fun _ => 0))))]) (w1 := []) hP hD [0, 1, 2, 3, 4, 5] [6] rfl rfl (by decide) (by decide) hk1 hFc hP1 hD1
    have hP : va_P (dC, dI) vwCl [(a2, .inl (T 5, 1, .inr (.inl (fun _ => 0))))] H := hP
    have hD : va_D A [(a2, .inl (T 5, 1, .inr (.inl (fun _ => 0))))] := hD
    clear hPc hDc hFc hP1 hD1 hk1 hz1 ht hvm
    refine vx_catch (E := "java/lang/IllegalArgumentException") (name := "java/lang/IllegalArgumentException") hown [] ⟨0, 14, 17, 13⟩ [⟨0, 14, 21, 17⟩] (htab.trans rfl) (fun _ h => absurd h List.not_mem_nil) (by decide) (by decide) (hts (.classLink RL 13 "java/lang/IllegalArgumentException") (by decide +kernel)) (xBad_use hG.2.2.2.1 _ (by decide +kernel)) hce hcv hcl ?_
    refine lv_astore (lv' := [(6, .ref q9), (0, .ref a1), (1, .int p1), (2, .int p2), (3, .int p3), (4, .int p4), (5, .ref a2)]) hx hb dL_addWall_17 hl (by decide) rfl (fun ls hl => ?_)
    refine lv_iconst (v := 1) hx hb dL_addWall_19 (by decide) ?_
    have hP9 := hP.sub (ws' := [(a2, .inl (T 5, 1, .inr (.inl (fun _ => 0))))]) [0] rfl
    have hD9 := hD.sub (ws' := [(a2, .inl (T 5, 1, .inr (.inl (fun _ => 0))))]) [0] (by decide) rfl
    exact W.iret (v := 1) hx hb hr (fun t ht hW => ⟨⟨_, _, rfl, rfl, (Or.inl ⟨c_1, rfl, by rw [ht]; exact hP9, hD9⟩)⟩, hS.F ht⟩) hS.2.2 dL_addWall_20
  · subst hw
    rcases hB with ⟨c_2, hr_9, hP1, hD1⟩
    rw [ht] at hP1
    subst hr_9
    obtain ⟨hP, hD⟩ := va_join (wr := [(a2, .inl (T 5, 1, .inr (.inl (fun _ => 0))))]) (w1 := []) hP hD [0, 1, 2, 3, 4, 5] [6] rfl rfl (by decide) (by decide) hk1 hFc hP1 hD1
    have hP : va_P (dC, dI) vwCl [(a2, .inl (T 5, 1, .inr (.inl (fun _ => 0))))] H := hP
    have hD : va_D A [(a2, .inl (T 5, 1, .inr (.inl (fun _ => 0))))] := hD
    clear hPc hDc hFc hP1 hD1 hk1 hz1 ht hvm
    refine lv_i2l (v := 0) hx hb dL_addWall_12 (by decide) ?_
    refine va_last hx hb hK hP hD hS 0 5 rfl rfl (show vp_in 0 1 by unfold vp_in; decide) dL_addWall_13 (fun H locs hP hD hS => ?_)
    have hP : va_P (dC, dI) vwCl [(a2, .inl (T 5, 1, .inr (.inl (vp_updL (fun _ => 0) (0 : Int32).toNatClampNeg 0))))] H := hP
    have hD : va_D A [(a2, .inl (T 5, 1, .inr (.inl (vp_updL (fun _ => 0) (0 : Int32).toNatClampNeg 0))))] := hD
    refine lv_goto (tgt := 25) hx hb dL_addWall_14 (by decide) ?_
    refine lv_iconst (v := 0) hx hb dL_addWall_25 (by decide) ?_
    have hP9 := hP.sub (ws' := [(a2, .inl (T 5, 1, .inr (.inl (vp_updL (fun _ => 0) (0 : Int32).toNatClampNeg 0))))]) [0] rfl
    have hD9 := hD.sub (ws' := [(a2, .inl (T 5, 1, .inr (.inl (vp_updL (fun _ => 0) (0 : Int32).toNatClampNeg 0))))]) [0] (by decide) rfl
    exact W.iret (v := 0) hx hb hr (fun t ht hW => ⟨⟨_, _, rfl, rfl, (Or.inr (⟨c_2, rfl, by rw [ht]; exact hP9, hD9⟩))⟩, hS.F ht⟩) hS.2.2 dL_addWall_26
set_option maxHeartbeats 4000000 in
set_option maxRecDepth 100000 in
theorem xcX11_needPoint (l : Launch) (hst : l.stackTraces = false) (dC : Nat → ClassId) (dI : Nat → Nat → Nat) (T : Nat → ClassId) (a1 : Nat) (a2 : Nat) (a3 : Nat) (a4 : Nat) (a5 : Nat) (a6 : Nat) (a7 : Nat) (a8 : Nat) (a9 : Nat) (a10 : Nat) (a11 : Nat) (a12 : Nat) (a13 : Nat) (a14 : Nat) (a15 : Nat) (a16 : Nat) (sz : Nat) (p1 : Int32) : vx_Met l yX11_needPoint wsX11_needPoint ({ frames := 6, cells := 1, slots := 6, locals := 82 } : Room) (va_Pc [.ref a1, .int p1] (fun U => xB dC dI T [(a1, .inr (16, [.ref a2, .ref a3, .ref a4, .ref a5, .ref a6, .ref a7, .ref a8, .ref a9, .ref a10, .ref a11])), (a2, .inr (10, [.ref a12, .ref a13, .ref a14, .ref a15, .ref a16, .int 0, .int 0]))] sz U)) (va_Qv (fun _ : Unit => True) (fun (_ : Unit) (t : State) => False) (va_A [(a1, .inr (16, [.ref a2, .ref a3, .ref a4, .ref a5, .ref a6, .ref a7, .ref a8, .ref a9, .ref a10, .ref a11])), (a2, .inr (10, [.ref a12, .ref a13, .ref a14, .ref a15, .ref a16, .int 0, .int 0]))] sz)) (vx_X (fun _ : Unit => True) (fun (E : String) (_ : Unit) (t : State) => E = "java/lang/IndexOutOfBoundsException" ∧ xE dC dI [(a1, .inr (16, [.ref a2, .ref a3, .ref a4, .ref a5, .ref a6, .ref a7, .ref a8, .ref a9, .ref a10, .ref a11])), (a2, .inr (10, [.ref a12, .ref a13, .ref a14, .ref a15, .ref a16, .int 0, .int 0]))] (va_A [(a1, .inr (16, [.ref a2, .ref a3, .ref a4, .ref a5, .ref a6, .ref a7, .ref a8, .ref a9, .ref a10, .ref a11])), (a2, .inr (10, [.ref a12, .ref a13, .ref a14, .ref a15, .ref a16, .int 0, .int 0]))] sz) t) (va_A [(a1, .inr (16, [.ref a2, .ref a3, .ref a4, .ref a5, .ref a6, .ref a7, .ref a8, .ref a9, .ref a10, .ref a11])), (a2, .inr (10, [.ref a12, .ref a13, .ref a14, .ref a15, .ref a16, .int 0, .int 0]))] sz)) 1 6 (va_A [(a1, .inr (16, [.ref a2, .ref a3, .ref a4, .ref a5, .ref a6, .ref a7, .ref a8, .ref a9, .ref a10, .ref a11])), (a2, .inr (10, [.ref a12, .ref a13, .ref a14, .ref a15, .ref a16, .int 0, .int 0]))] sz) := by
  refine vx_ofW (cc := cX11_needPoint) (maxL := 2) (ret := none) (by decide +kernel) rfl ?_
  intro p e s m args below meth c s₁ B hml hex hv
  obtain ⟨rfl, hsz, hP, hK, hD0, hG⟩ := hv
  have hx := B.exec
  have hb := B.bytes
  have hr := B.returns
  have hts := atoms_spec (ws := wsX11_needPoint) B.pre
  have hown : s.vm.findClass RX11 = some m.cls := findClass_of_methodNamed B.named
  have hlocks := B.notSynchronized
  have hin_X11 : ∀ w ∈ wsX110, w ∈ wsX11_needPoint := by decide +kernel
  have hm_384 : ∀ w ∈ (vx_atS RX11 384 "java/lang/IndexOutOfBoundsException" ["java/lang/RuntimeException", "java/lang/Exception"]).filter goodWord, w ∈ wsX11_needPoint := by decide +kernel
  have hat_384 : ∀ w ∈ vx_atS RX11 384 "java/lang/IndexOutOfBoundsException" ["java/lang/RuntimeException", "java/lang/Exception"], w.before (#[.ref a1, .int p1] : Array Value) s = true := vx_hat (B := xBad) (fun w hw => hts w (hm_384 w hw)) (by decide +kernel) (xBad_use hG.2.2.2.1)
  subst hsz
  have hD := hD0.self (sz := s.heap.size)
  generalize hAe : va_A [(a1, .inr (16, [.ref a2, .ref a3, .ref a4, .ref a5, .ref a6, .ref a7, .ref a8, .ref a9, .ref a10, .ref a11])), (a2, .inr (10, [.ref a12, .ref a13, .ref a14, .ref a15, .ref a16, .int 0, .int 0]))] s.heap.size = A at hD hG ⊢
  have hA : ∀ q : Nat, s.heap.size ≤ q → A q := fun q h => by rw [← hAe]; exact Or.inr h
  have hS : va_S A s.heap s.heap [] := va_S.rf
  have hl := lv_entry ([.ref a1, .int p1]) (n := 2) (Nat.le_of_ble_eq_true rfl)
  rw [lg_entry_eq]
  generalize (lg_sl ([.ref a1, .int p1]) ++ List.replicate (2 - (lg_sl ([.ref a1, .int p1])).length) Slot.unset).toArray = ls at hl ⊢
  have hl : lv_has ls 2 [(0, .ref a1), (1, .int p1)] := hl
  refine lv_aload_n hx hb dX11_needPoint_0 rfl (lv_at hl 0 rfl) ?_
  refine va_get (D := (dC, dI)) (ci := 16) (v := .ref a2) (C := RX11) (T := TX11) (N := 10) hx hb hts hin_X11 hown hK hP 0 rfl rfl 0 (by decide) (hts (.fieldLink RX11 12 "Nearestward" "ground" "LNearestward$Ground;") (by decide +kernel)) (fun _ h9 => h9) rfl dX11_needPoint_1 ?_
  refine lv_iload_n hx hb dX11_needPoint_4 rfl (lv_at hl 1 rfl) ?_
  have hPc := hP.sub (ws' := [(a2, .inr (10, [.ref a12, .ref a13, .ref a14, .ref a15, .ref a16, .int 0, .int 0]))]) [1] rfl
  have hDc := hD.sub (ws' := [(a2, .inr (10, [.ref a12, .ref a13, .ref a14, .ref a15, .ref a16, .int 0, .int 0]))]) [1] (by decide) rfl
  have hFc := va_free (wc := [(a2, .inr (10, [.ref a12, .ref a13, .ref a14, .ref a15, .ref a16, .int 0, .int 0]))]) hD hS hA [1] rfl
  refine va_calli (va_runV (As := [.int p1]) (rest := []) ⟨hx, hb, hml, hown, hts⟩ (xcX5_has l hst dC dI T a2 a12 a13 a14 a15 a16 s.heap.size p1) (cwV 1 hts gX11_needPoint_X5_has rfl rfl rfl (by decide +kernel) ⟨Nat.le_of_ble_eq_true rfl, Nat.le_of_ble_eq_true rfl⟩) ⟨xBlind, va_recv hK hPc (ci := 10) (q0 := 0) rfl rfl, xCall hK hG hS hPc hDc hFc⟩ rfl rfl hl.1 rfl (lv_room (Nat.le_of_ble_eq_true rfl)) dX11_needPoint_5 ⟨Nat.le_of_ble_eq_true rfl, Nat.le_of_ble_eq_true rfl⟩) hS (fun q _ h => hFc q h) hFc (fun r_9 u t H locs ht hvm hw hB hz1 hk1 hS => ?_)
  subst hw
  rcases hB with ⟨hr_9, hP1, hD1⟩
  rw [ht] at hP1
  subst hr_9
  obtain ⟨hP, hD⟩ := va_join (wr := [(a1, .inr (16, [.ref a2, .ref a3, .ref a4, .ref a5, .ref a6, .ref a7, .ref a8, .ref a9, .ref a10, .ref a11]))]) (w1 := [(a2, .inr (10, [.ref a12, .ref a13, .ref a14, .ref a15, .ref a16, .int 0, .int 0]))]) hP hD [1] [0] rfl rfl (by decide) (by decide) hk1 hFc hP1 hD1
  have hP : va_P (dC, dI) vwCl [(a1, .inr (16, [.ref a2, .ref a3, .ref a4, .ref a5, .ref a6, .ref a7, .ref a8, .ref a9, .ref a10, .ref a11])), (a2, .inr (10, [.ref a12, .ref a13, .ref a14, .ref a15, .ref a16, .int 0, .int 0]))] H := hP
  have hD : va_D A [(a1, .inr (16, [.ref a2, .ref a3, .ref a4, .ref a5, .ref a6, .ref a7, .ref a8, .ref a9, .ref a10, .ref a11])), (a2, .inr (10, [.ref a12, .ref a13, .ref a14, .ref a15, .ref a16, .int 0, .int 0]))] := hD
  clear hPc hDc hFc hP1 hD1 hk1 hz1 ht hvm
  refine lv_if_ne (tgt := 22) hx hb dX11_needPoint_8 (by decide) (fun c_2 => absurd c_2 (by decide)) (fun c_2 => ?_)
  obtain ⟨sa, hsa⟩ := hG.2.2.2.2.1 (RX11, 382, "there is no such point") (by decide +kernel)
  have hP9 := hP.sub (ws' := [(a1, .inr (16, [.ref a2, .ref a3, .ref a4, .ref a5, .ref a6, .ref a7, .ref a8, .ref a9, .ref a10, .ref a11])), (a2, .inr (10, [.ref a12, .ref a13, .ref a14, .ref a15, .ref a16, .int 0, .int 0]))]) [0, 1] rfl
  have hD9 := hD.sub (ws' := [(a1, .inr (16, [.ref a2, .ref a3, .ref a4, .ref a5, .ref a6, .ref a7, .ref a8, .ref a9, .ref a10, .ref a11])), (a2, .inr (10, [.ref a12, .ref a13, .ref a14, .ref a15, .ref a16, .int 0, .int 0]))]) [0, 1] (by decide) rfl
  exact vx_throwSW (cls := "java/lang/IndexOutOfBoundsException") (names := ["java/lang/RuntimeException", "java/lang/Exception"]) (text := "there is no such point") (ic := 384) hx hb hst hown (by decide +kernel) (by decide +kernel) (hts (.classLink RX11 380 "java/lang/IndexOutOfBoundsException") (by decide +kernel)) (hts (.initialized "java/lang/IndexOutOfBoundsException") (by decide +kernel)) hsa hat_384 (by decide +kernel) hG.1 hG.2.1 hS (by rw [hml]; exact hl.1) dX11_needPoint_11 dX11_needPoint_14 dX11_needPoint_15 dX11_needPoint_18 dX11_needPoint_21 (fun x hx => absurd (hex x hx) id) (Nat.le_of_ble_eq_true rfl) (Nat.le_of_ble_eq_true rfl) (Nat.le_of_ble_eq_true rfl) (Nat.le_of_ble_eq_true rfl) hlocks (fun t hvm hz1 hk1 => ⟨(), trivial, ⟨rfl, hP9.kept (fun k x hx => hk1 x.1 ((hP9 k x hx).lt)), hD9⟩, xthrF hS hz1 hk1⟩) hS.2.2 (Nat.le_of_ble_eq_true rfl) (Nat.le_of_ble_eq_true rfl)
set_option maxHeartbeats 4000000 in
set_option maxRecDepth 100000 in
theorem xcX11_areNeighbours (l : Launch) (hst : l.stackTraces = false) (dC : Nat → ClassId) (dI : Nat → Nat → Nat) (T : Nat → ClassId) (a1 : Nat) (a2 : Nat) (a3 : Nat) (a4 : Nat) (a5 : Nat) (a6 : Nat) (a7 : Nat) (a8 : Nat) (a9 : Nat) (a10 : Nat) (a11 : Nat) (a12 : Nat) (a13 : Nat) (a14 : Nat) (a15 : Nat) (a16 : Nat) (sz : Nat) (p1 : Int32) (p2 : Int32) : vx_Met l yX11_areNeighbours wsX11_areNeighbours ({ frames := 7, cells := 1, slots := 6, locals := 103 } : Room) (va_Pc [.ref a1, .int p1, .int p2] (fun U => xB dC dI T [(a1, .inr (16, [.ref a2, .ref a3, .ref a4, .ref a5, .ref a6, .ref a7, .ref a8, .ref a9, .ref a10, .ref a11])), (a2, .inr (10, [.ref a12, .ref a13, .ref a14, .ref a15, .ref a16, .int 0, .int 0]))] sz U)) (va_Qi (fun (r u : Int32) => r = u) (fun (u : Int32) (t : State) => False) (va_A [(a1, .inr (16, [.ref a2, .ref a3, .ref a4, .ref a5, .ref a6, .ref a7, .ref a8, .ref a9, .ref a10, .ref a11])), (a2, .inr (10, [.ref a12, .ref a13, .ref a14, .ref a15, .ref a16, .int 0, .int 0]))] sz)) (vx_X (fun _ : Unit => True) (fun (E : String) (_ : Unit) (t : State) => E = "java/lang/IndexOutOfBoundsException" ∧ xE dC dI [] (va_A [(a1, .inr (16, [.ref a2, .ref a3, .ref a4, .ref a5, .ref a6, .ref a7, .ref a8, .ref a9, .ref a10, .ref a11])), (a2, .inr (10, [.ref a12, .ref a13, .ref a14, .ref a15, .ref a16, .int 0, .int 0]))] sz) t) (va_A [(a1, .inr (16, [.ref a2, .ref a3, .ref a4, .ref a5, .ref a6, .ref a7, .ref a8, .ref a9, .ref a10, .ref a11])), (a2, .inr (10, [.ref a12, .ref a13, .ref a14, .ref a15, .ref a16, .int 0, .int 0]))] sz)) 1 6 (va_A [(a1, .inr (16, [.ref a2, .ref a3, .ref a4, .ref a5, .ref a6, .ref a7, .ref a8, .ref a9, .ref a10, .ref a11])), (a2, .inr (10, [.ref a12, .ref a13, .ref a14, .ref a15, .ref a16, .int 0, .int 0]))] sz) := by
  refine vx_ofW (cc := cX11_areNeighbours) (maxL := 3) (ret := (some .boolean)) (by decide +kernel) rfl ?_
  intro p e s m args below meth c s₁ B hml hex hv
  obtain ⟨rfl, hsz, hP, hK, hD0, hG⟩ := hv
  have hx := B.exec
  have hb := B.bytes
  have hr := B.returns
  have hts := atoms_spec (ws := wsX11_areNeighbours) B.pre
  have hown : s.vm.findClass RX11 = some m.cls := findClass_of_methodNamed B.named
  have hlocks := B.notSynchronized
  subst hsz
  have hD := hD0.self (sz := s.heap.size)
  generalize hAe : va_A [(a1, .inr (16, [.ref a2, .ref a3, .ref a4, .ref a5, .ref a6, .ref a7, .ref a8, .ref a9, .ref a10, .ref a11])), (a2, .inr (10, [.ref a12, .ref a13, .ref a14, .ref a15, .ref a16, .int 0, .int 0]))] s.heap.size = A at hD hG ⊢
  have hA : ∀ q : Nat, s.heap.size ≤ q → A q := fun q h => by rw [← hAe]; exact Or.inr h
  have hS : va_S A s.heap s.heap [] := va_S.rf
  have hl := lv_entry ([.ref a1, .int p1, .int p2]) (n := 3) (Nat.le_of_ble_eq_true rfl)
  rw [lg_entry_eq]
  generalize (lg_sl ([.ref a1, .int p1, .int p2]) ++ List.replicate (3 - (lg_sl ([.ref a1, .int p1, .int p2])).length) Slot.unset).toArray = ls at hl ⊢
  have hl : lv_has ls 3 [(0, .ref a1), (1, .int p1), (2, .int p2)] := hl
  refine lv_aload_n hx hb dX11_areNeighbours_0 rfl (lv_at hl 0 rfl) ?_
  refine lv_iload_n hx hb dX11_areNeighbours_1 rfl (lv_at hl 1 rfl) ?_
  have hPc := hP.sub (ws' := [(a1, .inr (16, [.ref a2, .ref a3, .ref a4, .ref a5, .ref a6, .ref a7, .ref a8, .ref a9, .ref a10, .ref a11])), (a2, .inr (10, [.ref a12, .ref a13, .ref a14, .ref a15, .ref a16, .int 0, .int 0]))]) [0, 1] rfl
  have hDc := hD.sub (ws' := [(a1, .inr (16, [.ref a2, .ref a3, .ref a4, .ref a5, .ref a6, .ref a7, .ref a8, .ref a9, .ref a10, .ref a11])), (a2, .inr (10, [.ref a12, .ref a13, .ref a14, .ref a15, .ref a16, .int 0, .int 0]))]) [0, 1] (by decide) rfl
  have hFc := va_free (wc := [(a1, .inr (16, [.ref a2, .ref a3, .ref a4, .ref a5, .ref a6, .ref a7, .ref a8, .ref a9, .ref a10, .ref a11])), (a2, .inr (10, [.ref a12, .ref a13, .ref a14, .ref a15, .ref a16, .int 0, .int 0]))]) hD hS hA [0, 1] rfl
  refine vx_callv (vx_runV (As := [.int p1]) (rest := []) ⟨hx, hb, hml, hown, hts⟩ (xcX11_needPoint l hst dC dI T a1 a2 a3 a4 a5 a6 a7 a8 a9 a10 a11 a12 a13 a14 a15 a16 s.heap.size p1) (cwV 1 hts gX11_areNeighbours_X11_needPoint rfl rfl rfl (by decide +kernel) ⟨Nat.le_of_ble_eq_true rfl, Nat.le_of_ble_eq_true rfl⟩) ⟨xBlind, va_recv hK hPc (ci := 16) (q0 := 0) rfl rfl, xCall hK hG hS hPc hDc hFc⟩ rfl rfl hl.1 rfl (lv_room (Nat.le_of_ble_eq_true rfl)) dX11_areNeighbours_2 ⟨Nat.le_of_ble_eq_true rfl, Nat.le_of_ble_eq_true rfl⟩) hS (fun q _ h => hFc q h) hFc (fun q _ h => hFc q h) (fun E ce q9 u t H locs ht hvm hw hB hz1 hk1 hS hce hcv hcl => ?_) (fun u t H locs ht hvm hw hB hz1 hk1 hS => ?_)
  · rcases hB with ⟨hE, hP1, hD1⟩
    subst hE
    rw [ht] at hP1
    obtain ⟨hP, hD⟩ := va_join (wr := []) (w1 := [(a1, .inr (16, [.ref a2, .ref a3, .ref a4, .ref a5, .ref a6, .ref a7, .ref a8, .ref a9, .ref a10, .ref a11])), (a2, .inr (10, [.ref a12, .ref a13, .ref a14, .ref a15, .ref a16, .int 0, .int 0]))]) hP hD [0, 1] [] rfl rfl (by decide) (by decide) hk1 hFc hP1 hD1
    have hP : va_P (dC, dI) vwCl [(a1, .inr (16, [.ref a2, .ref a3, .ref a4, .ref a5, .ref a6, .ref a7, .ref a8, .ref a9, .ref a10, .ref a11])), (a2, .inr (10, [.ref a12, .ref a13, .ref a14, .ref a15, .ref a16, .int 0, .int 0]))] H := hP
    have hD : va_D A [(a1, .inr (16, [.ref a2, .ref a3, .ref a4, .ref a5, .ref a6, .ref a7, .ref a8, .ref a9, .ref a10, .ref a11])), (a2, .inr (10, [.ref a12, .ref a13, .ref a14, .ref a15, .ref a16, .int 0, .int 0]))] := hD
    clear hPc hDc hFc hP1 hD1 hk1 hz1 ht hvm
    have hP9 := hP.sub (ws' := []) [] rfl
    have hD9 := hD.sub (ws' := []) [] (by decide) rfl
    exact vx_out (fun x hx => absurd (hex x hx) id) hlocks hce hcv hcl (fun t ht _ => ⟨(), trivial, ⟨rfl, by rw [ht]; exact hP9, hD9⟩, hS.F ht⟩) hS.2.2 (Nat.le_of_ble_eq_true rfl) (Nat.le_of_ble_eq_true rfl)
  · exact absurd hB id
set_option maxHeartbeats 4000000 in
set_option maxRecDepth 100000 in
theorem xcL_areNeighbours (l : Launch) (hst : l.stackTraces = false) (dC : Nat → ClassId) (dI : Nat → Nat → Nat) (T : Nat → ClassId) (a1 : Nat) (a2 : Nat) (a3 : Nat) (a4 : Nat) (a5 : Nat) (a6 : Nat) (a7 : Nat) (a8 : Nat) (a9 : Nat) (a10 : Nat) (a11 : Nat) (a12 : Nat) (a13 : Nat) (a14 : Nat) (a15 : Nat) (a16 : Nat) (a17 : Nat) (sz : Nat) (p1 : Int32) (p2 : Int32) : Met l yL_areNeighbours wsL_areNeighbours ({ frames := 8, cells := 1, slots := 6, locals := 125 } : Room) (va_Pc [.ref a1, .int p1, .int p2, .ref a2] (fun U => xB dC dI T [(a1, .inr (16, [.ref a3, .ref a4, .ref a5, .ref a6, .ref a7, .ref a8, .ref a9, .ref a10, .ref a11, .ref a12])), (a3, .inr (10, [.ref a13, .ref a14, .ref a15, .ref a16, .ref a17, .int 0, .int 0]))] sz U)) (va_Qi (fun (r u : Int32) => r = u) (fun (u : Int32) (t : State) => 1 = u ∧ xE dC dI [] (va_A [(a1, .inr (16, [.ref a3, .ref a4, .ref a5, .ref a6, .ref a7, .ref a8, .ref a9, .ref a10, .ref a11, .ref a12])), (a3, .inr (10, [.ref a13, .ref a14, .ref a15, .ref a16, .ref a17, .int 0, .int 0]))] sz) t) (va_A [(a1, .inr (16, [.ref a3, .ref a4, .ref a5, .ref a6, .ref a7, .ref a8, .ref a9, .ref a10, .ref a11, .ref a12])), (a3, .inr (10, [.ref a13, .ref a14, .ref a15, .ref a16, .ref a17, .int 0, .int 0]))] sz)) 1 6 (va_A [(a1, .inr (16, [.ref a3, .ref a4, .ref a5, .ref a6, .ref a7, .ref a8, .ref a9, .ref a10, .ref a11, .ref a12])), (a3, .inr (10, [.ref a13, .ref a14, .ref a15, .ref a16, .ref a17, .int 0, .int 0]))] sz) := by
  refine va_MetW (cc := cL_areNeighbours) (maxL := 5) (ret := (some .int)) (hh := [(0, 17, 20, 23)]) (by decide +kernel) rfl ?_
  intro p e s m args below meth c s₁ B hml hv
  obtain ⟨rfl, hsz, hP, hK, hD0, hG⟩ := hv
  have hx := B.exec
  have hb := B.bytes
  have hr := B.returns
  have hts := atoms_spec (ws := wsL_areNeighbours) B.pre
  have hown : s.vm.findClass RL = some m.cls := findClass_of_methodNamed B.named
  have hlocks := B.notSynchronized
  have htab := vx_table (x := yL_areNeighbours) B (hts (.codeWith yL_areNeighbours cL_areNeighbours 5 (some .int) [(0, 17, 20, 23)]) (by decide +kernel))
  subst hsz
  have hD := hD0.self (sz := s.heap.size)
  generalize hAe : va_A [(a1, .inr (16, [.ref a3, .ref a4, .ref a5, .ref a6, .ref a7, .ref a8, .ref a9, .ref a10, .ref a11, .ref a12])), (a3, .inr (10, [.ref a13, .ref a14, .ref a15, .ref a16, .ref a17, .int 0, .int 0]))] s.heap.size = A at hD hG ⊢
  have hA : ∀ q : Nat, s.heap.size ≤ q → A q := fun q h => by rw [← hAe]; exact Or.inr h
  have hS : va_S A s.heap s.heap [] := va_S.rf
  have hl := lv_entry ([.ref a1, .int p1, .int p2, .ref a2]) (n := 5) (Nat.le_of_ble_eq_true rfl)
  rw [lg_entry_eq]
  generalize (lg_sl ([.ref a1, .int p1, .int p2, .ref a2]) ++ List.replicate (5 - (lg_sl ([.ref a1, .int p1, .int p2, .ref a2])).length) Slot.unset).toArray = ls at hl ⊢
  have hl : lv_has ls 5 [(0, .ref a1), (1, .int p1), (2, .int p2), (3, .ref a2)] := hl
  refine lv_aload_n hx hb dL_areNeighbours_0 rfl (lv_at hl 3 rfl) ?_
  refine lv_iconst (v := 0) hx hb dL_areNeighbours_1 (by decide) ?_
  refine lv_aload_n hx hb dL_areNeighbours_2 rfl (lv_at hl 0 rfl) ?_
  refine lv_iload_n hx hb dL_areNeighbours_3 rfl (lv_at hl 1 rfl) ?_
  refine lv_iload_n hx hb dL_areNeighbours_4 rfl (lv_at hl 2 rfl) ?_
  have hPc := hP.sub (ws' := [(a1, .inr (16, [.ref a3, .ref a4, .ref a5, .ref a6, .ref a7, .ref a8, .ref a9, .ref a10, .ref a11, .ref a12])), (a3, .inr (10, [.ref a13, .ref a14, .ref a15, .ref a16, .ref a17, .int 0, .int 0]))]) [0, 1] rfl
  have hDc := hD.sub (ws' := [(a1, .inr (16, [.ref a3, .ref a4, .ref a5, .ref a6, .ref a7, .ref a8, .ref a9, .ref a10, .ref a11, .ref a12])), (a3, .inr (10, [.ref a13, .ref a14, .ref a15, .ref a16, .ref a17, .int 0, .int 0]))]) [0, 1] (by decide) rfl
  have hFc := va_free (wc := [(a1, .inr (16, [.ref a3, .ref a4, .ref a5, .ref a6, .ref a7, .ref a8, .ref a9, .ref a10, .ref a11, .ref a12])), (a3, .inr (10, [.ref a13, .ref a14, .ref a15, .ref a16, .ref a17, .int 0, .int 0]))]) hD hS hA [0, 1] rfl
  refine vx_calli (vx_runV (As := [.int p1, .int p2]) (rest := [.int 0, .ref a2]) ⟨hx, hb, hml, hown, hts⟩ (xcX11_areNeighbours l hst dC dI T a1 a3 a4 a5 a6 a7 a8 a9 a10 a11 a12 a13 a14 a15 a16 a17 s.heap.size p1 p2) (cwV 2 hts gL_areNeighbours_X11_areNeighbours rfl rfl rfl (by decide +kernel) ⟨Nat.le_of_ble_eq_true rfl, Nat.le_of_ble_eq_true rfl⟩) ⟨xBlind, va_recv hK hPc (ci := 16) (q0 := 0) rfl rfl, xCall hK hG hS hPc hDc hFc⟩ rfl rfl hl.1 rfl (lv_room (Nat.le_of_ble_eq_true rfl)) dL_areNeighbours_5 ⟨Nat.le_of_ble_eq_true rfl, Nat.le_of_ble_eq_true rfl⟩) hS (fun q _ h => hFc q h) hFc (fun q _ h => hFc q h) (fun E ce q9 u t H locs ht hvm hw hB hz1 hk1 hS hce hcv hcl => ?_) (fun r_9 u t H locs ht hvm hw hB hz1 hk1 hS => ?_)
  · rcases hB with ⟨hE, hP1, hD1⟩
    subst hE
    rw [ht] at hP1
    obtain ⟨hP, hD⟩ := va_join (wr := []) (w1 := []) hP hD [0, 1] [] rfl rfl (by decide) (by decide) hk1 hFc hP1 hD1
    have hP : va_P (dC, dI) vwCl [] H := hP
    have hD : va_D A [] := hD
    clear hPc hDc hFc hP1 hD1 hk1 hz1 ht hvm
    refine vx_catch (E := "java/lang/IndexOutOfBoundsException") (name := "java/lang/IndexOutOfBoundsException") hown [] ⟨0, 17, 20, 23⟩ [] (htab.trans rfl) (fun _ h => absurd h List.not_mem_nil) (by decide) (by decide) (hts (.classLink RL 23 "java/lang/IndexOutOfBoundsException") (by decide +kernel)) (xBad_use hG.2.2.2.1 _ (by decide +kernel)) hce hcv hcl ?_
    refine lv_astore (lv' := [(4, .ref q9), (0, .ref a1), (1, .int p1), (2, .int p2), (3, .ref a2)]) hx hb dL_areNeighbours_20 hl (by decide) rfl (fun ls hl => ?_)
    refine lv_iconst (v := 1) hx hb dL_areNeighbours_22 (by decide) ?_
    have hP9 := hP.sub (ws' := []) [] rfl
    have hD9 := hD.sub (ws' := []) [] (by decide) rfl
    exact W.iret (v := 1) hx hb hr (fun t ht hW => ⟨⟨_, _, rfl, rfl, ⟨rfl, by rw [ht]; exact hP9, hD9⟩⟩, hS.F ht⟩) hS.2.2 dL_areNeighbours_23
  · exact absurd hB id
set_option maxHeartbeats 4000000 in
set_option maxRecDepth 100000 in
theorem xcX11_needRange_v2 (l : Launch) (hst : l.stackTraces = false) (dC : Nat → ClassId) (dI : Nat → Nat → Nat) (T : Nat → ClassId) (sz : Nat) (p0 : Int32) : vx_Met l yX11_needRange wsX11_needRange ({ frames := 6, cells := 1, slots := 6, locals := 82 } : Room) (va_Pc [.int p0, .int 1, .int 4] (fun U => xB dC dI T [] sz U)) (va_Qv (fun _ : Unit => True) (fun (_ : Unit) (t : State) => ((¬ (p0.toInt < 1)) ∧ (p0.toInt ≤ 4)) ∧ xE dC dI [] (va_A [] sz) t) (va_A [] sz)) (vx_X (fun _ : Unit => True) (fun (E : String) (_ : Unit) (t : State) => ((p0.toInt < 1) ∨ ((¬ (p0.toInt < 1)) ∧ (¬ (p0.toInt ≤ 4)))) ∧ E = "java/lang/IllegalArgumentException" ∧ xE dC dI [] (va_A [] sz) t) (va_A [] sz)) 1 6 (va_A [] sz) := by
  refine vx_ofW (cc := cX11_needRange) (maxL := 3) (ret := none) (by decide +kernel) rfl ?_
  intro p e s m args below meth c s₁ B hml hex hv
  obtain ⟨rfl, hsz, hP, hK, hD0, hG⟩ := hv
  have hx := B.exec
  have hb := B.bytes
  have hr := B.returns
  have hts := atoms_spec (ws := wsX11_needRange) B.pre
  have hown : s.vm.findClass RX11 = some m.cls := findClass_of_methodNamed B.named
  have hlocks := B.notSynchronized
  have hm_214 : ∀ w ∈ (vx_atS RX11 214 "java/lang/IllegalArgumentException" ["java/lang/RuntimeException", "java/lang/Exception"]).filter goodWord, w ∈ wsX11_needRange := by decide +kernel
  have hat_214 : ∀ w ∈ vx_atS RX11 214 "java/lang/IllegalArgumentException" ["java/lang/RuntimeException", "java/lang/Exception"], w.before (#[.int p0, .int 1, .int 4] : Array Value) s = true := vx_hat (B := xBad) (fun w hw => hts w (hm_214 w hw)) (by decide +kernel) (xBad_use hG.2.2.2.1)
  subst hsz
  have hD := hD0.self (sz := s.heap.size)
  generalize hAe : va_A [] s.heap.size = A at hD hG ⊢
  have hA : ∀ q : Nat, s.heap.size ≤ q → A q := fun q h => by rw [← hAe]; exact Or.inr h
  have hS : va_S A s.heap s.heap [] := va_S.rf
  have hl := lv_entry ([.int p0, .int 1, .int 4]) (n := 3) (Nat.le_of_ble_eq_true rfl)
  rw [lg_entry_eq]
  generalize (lg_sl ([.int p0, .int 1, .int 4]) ++ List.replicate (3 - (lg_sl ([.int p0, .int 1, .int 4])).length) Slot.unset).toArray = ls at hl ⊢
  have hl : lv_has ls 3 [(0, .int p0), (1, .int 1), (2, .int 4)] := hl
  refine lv_iload_n hx hb dX11_needRange_0 rfl (lv_at hl 0 rfl) ?_
  refine lv_iload_n hx hb dX11_needRange_1 rfl (lv_at hl 1 rfl) ?_
  refine lv_icmp_lt (tgt := 10) hx hb dX11_needRange_2 (by decide) (fun c_1 => ?_) (fun c_1 => ?_)
  · have nc_1 : p0.toInt < 1 := (xi_lt rfl (by decide +kernel)).mp c_1
    obtain ⟨sa, hsa⟩ := hG.2.2.2.2.1 (RX11, 385, "a number is out of range") (by decide +kernel)
    have hP9 := hP.sub (ws' := []) [] rfl
    have hD9 := hD.sub (ws' := []) [] (by decide) rfl
    exact vx_throwSW (cls := "java/lang/IllegalArgumentException") (names := ["java/lang/RuntimeException", "java/lang/Exception"]) (text := "a number is out of range") (ic := 214) hx hb hst hown (by decide +kernel) (by decide +kernel) (hts (.classLink RX11 210 "java/lang/IllegalArgumentException") (by decide +kernel)) (hts (.initialized "java/lang/IllegalArgumentException") (by decide +kernel)) hsa hat_214 (by decide +kernel) hG.1 hG.2.1 hS (by rw [hml]; exact hl.1) dX11_needRange_10 dX11_needRange_13 dX11_needRange_14 dX11_needRange_17 dX11_needRange_20 (fun x hx => absurd (hex x hx) id) (Nat.le_of_ble_eq_true rfl) (Nat.le_of_ble_eq_true rfl) (Nat.le_of_ble_eq_true rfl) (Nat.le_of_ble_eq_true rfl) hlocks (fun t hvm hz1 hk1 => ⟨(), trivial, ⟨(Or.inl nc_1), rfl, hP9.kept (fun k x hx => hk1 x.1 ((hP9 k x hx).lt)), hD9⟩, xthrF hS hz1 hk1⟩) hS.2.2 (Nat.le_of_ble_eq_true rfl) (Nat.le_of_ble_eq_true rfl)
  · have nc_1 : ¬ (p0.toInt < 1) := mt (xi_lt rfl (by decide +kernel)).mpr c_1
    refine lv_iload_n hx hb dX11_needRange_5 rfl (lv_at hl 0 rfl) ?_
    refine lv_iload_n hx hb dX11_needRange_6 rfl (lv_at hl 2 rfl) ?_
    refine lv_icmp_le (tgt := 21) hx hb dX11_needRange_7 (by decide) (fun c_2 => ?_) (fun c_2 => ?_)
    · have nc_2 : p0.toInt ≤ 4 := (xi_le rfl (by decide +kernel)).mp c_2
      refine vx_ret ?_
      have hP9 := hP.sub (ws' := []) [] rfl
      have hD9 := hD.sub (ws' := []) [] (by decide) rfl
      refine W.widen (k := 1) (n := 6) (Nat.le_of_ble_eq_true rfl) (Nat.le_of_ble_eq_true rfl) ?_
      exact W.vret hx hb hr (fun t ht hW => ⟨⟨(), rfl, trivial, ⟨⟨nc_1, nc_2⟩, by rw [ht]; exact hP9, hD9⟩⟩, hS.F ht⟩) hS.2.2 dX11_needRange_21
    · have nc_2 : ¬ (p0.toInt ≤ 4) := mt (xi_le rfl (by decide +kernel)).mpr c_2
      obtain ⟨sa, hsa⟩ := hG.2.2.2.2.1 (RX11, 385, "a number is out of range") (by decide +kernel)
      have hP9 := hP.sub (ws' := []) [] rfl
      have hD9 := hD.sub (ws' := []) [] (by decide) rfl
      exact vx_throwSW (cls := "java/lang/IllegalArgumentException") (names := ["java/lang/RuntimeException", "java/lang/Exception"]) (text := "a number is out of range") (ic := 214) hx hb hst hown (by decide +kernel) (by decide +kernel) (hts (.classLink RX11 210 "java/lang/IllegalArgumentException") (by decide +kernel)) (hts (.initialized "java/lang/IllegalArgumentException") (by decide +kernel)) hsa hat_214 (by decide +kernel) hG.1 hG.2.1 hS (by rw [hml]; exact hl.1) dX11_needRange_10 dX11_needRange_13 dX11_needRange_14 dX11_needRange_17 dX11_needRange_20 (fun x hx => absurd (hex x hx) id) (Nat.le_of_ble_eq_true rfl) (Nat.le_of_ble_eq_true rfl) (Nat.le_of_ble_eq_true rfl) (Nat.le_of_ble_eq_true rfl) hlocks (fun t hvm hz1 hk1 => ⟨(), trivial, ⟨(Or.inr (⟨nc_1, nc_2⟩)), rfl, hP9.kept (fun k x hx => hk1 x.1 ((hP9 k x hx).lt)), hD9⟩, xthrF hS hz1 hk1⟩) hS.2.2 (Nat.le_of_ble_eq_true rfl) (Nat.le_of_ble_eq_true rfl)
set_option maxHeartbeats 4000000 in
set_option maxRecDepth 100000 in
theorem xcX11_needRange_v3 (l : Launch) (hst : l.stackTraces = false) (dC : Nat → ClassId) (dI : Nat → Nat → Nat) (T : Nat → ClassId) (sz : Nat) (p0 : Int32) (p2 : Int32) : vx_Met l yX11_needRange wsX11_needRange ({ frames := 6, cells := 1, slots := 6, locals := 82 } : Room) (va_Pc [.int p0, .int 0, .int p2] (fun U => xB dC dI T [] sz U)) (va_Qv (fun _ : Unit => True) (fun (_ : Unit) (t : State) => ((¬ (p0.toInt < 0)) ∧ (p0.toInt ≤ p2.toInt)) ∧ xE dC dI [] (va_A [] sz) t) (va_A [] sz)) (vx_X (fun _ : Unit => True) (fun (E : String) (_ : Unit) (t : State) => ((p0.toInt < 0) ∨ ((¬ (p0.toInt < 0)) ∧ (¬ (p0.toInt ≤ p2.toInt)))) ∧ E = "java/lang/IllegalArgumentException" ∧ xE dC dI [] (va_A [] sz) t) (va_A [] sz)) 1 6 (va_A [] sz) := by
  refine vx_ofW (cc := cX11_needRange) (maxL := 3) (ret := none) (by decide +kernel) rfl ?_
  intro p e s m args below meth c s₁ B hml hex hv
  obtain ⟨rfl, hsz, hP, hK, hD0, hG⟩ := hv
  have hx := B.exec
  have hb := B.bytes
  have hr := B.returns
  have hts := atoms_spec (ws := wsX11_needRange) B.pre
  have hown : s.vm.findClass RX11 = some m.cls := findClass_of_methodNamed B.named
  have hlocks := B.notSynchronized
  have hm_214 : ∀ w ∈ (vx_atS RX11 214 "java/lang/IllegalArgumentException" ["java/lang/RuntimeException", "java/lang/Exception"]).filter goodWord, w ∈ wsX11_needRange := by decide +kernel
  have hat_214 : ∀ w ∈ vx_atS RX11 214 "java/lang/IllegalArgumentException" ["java/lang/RuntimeException", "java/lang/Exception"], w.before (#[.int p0, .int 0, .int p2] : Array Value) s = true := vx_hat (B := xBad) (fun w hw => hts w (hm_214 w hw)) (by decide +kernel) (xBad_use hG.2.2.2.1)
  subst hsz
  have hD := hD0.self (sz := s.heap.size)
  generalize hAe : va_A [] s.heap.size = A at hD hG ⊢
  have hA : ∀ q : Nat, s.heap.size ≤ q → A q := fun q h => by rw [← hAe]; exact Or.inr h
  have hS : va_S A s.heap s.heap [] := va_S.rf
  have hl := lv_entry ([.int p0, .int 0, .int p2]) (n := 3) (Nat.le_of_ble_eq_true rfl)
  rw [lg_entry_eq]
  generalize (lg_sl ([.int p0, .int 0, .int p2]) ++ List.replicate (3 - (lg_sl ([.int p0, .int 0, .int p2])).length) Slot.unset).toArray = ls at hl ⊢
  have hl : lv_has ls 3 [(0, .int p0), (1, .int 0), (2, .int p2)] := hl
  refine lv_iload_n hx hb dX11_needRange_0 rfl (lv_at hl 0 rfl) ?_
  refine lv_iload_n hx hb dX11_needRange_1 rfl (lv_at hl 1 rfl) ?_
  refine lv_icmp_lt (tgt := 10) hx hb dX11_needRange_2 (by decide) (fun c_1 => ?_) (fun c_1 => ?_)
  · have nc_1 : p0.toInt < 0 := (xi_lt rfl (by decide +kernel)).mp c_1
    obtain ⟨sa, hsa⟩ := hG.2.2.2.2.1 (RX11, 385, "a number is out of range") (by decide +kernel)
    have hP9 := hP.sub (ws' := []) [] rfl
    have hD9 := hD.sub (ws' := []) [] (by decide) rfl
    exact vx_throwSW (cls := "java/lang/IllegalArgumentException") (names := ["java/lang/RuntimeException", "java/lang/Exception"]) (text := "a number is out of range") (ic := 214) hx hb hst hown (by decide +kernel) (by decide +kernel) (hts (.classLink RX11 210 "java/lang/IllegalArgumentException") (by decide +kernel)) (hts (.initialized "java/lang/IllegalArgumentException") (by decide +kernel)) hsa hat_214 (by decide +kernel) hG.1 hG.2.1 hS (by rw [hml]; exact hl.1) dX11_needRange_10 dX11_needRange_13 dX11_needRange_14 dX11_needRange_17 dX11_needRange_20 (fun x hx => absurd (hex x hx) id) (Nat.le_of_ble_eq_true rfl) (Nat.le_of_ble_eq_true rfl) (Nat.le_of_ble_eq_true rfl) (Nat.le_of_ble_eq_true rfl) hlocks (fun t hvm hz1 hk1 => ⟨(), trivial, ⟨(Or.inl nc_1), rfl, hP9.kept (fun k x hx => hk1 x.1 ((hP9 k x hx).lt)), hD9⟩, xthrF hS hz1 hk1⟩) hS.2.2 (Nat.le_of_ble_eq_true rfl) (Nat.le_of_ble_eq_true rfl)
  · have nc_1 : ¬ (p0.toInt < 0) := mt (xi_lt rfl (by decide +kernel)).mpr c_1
    refine lv_iload_n hx hb dX11_needRange_5 rfl (lv_at hl 0 rfl) ?_
    refine lv_iload_n hx hb dX11_needRange_6 rfl (lv_at hl 2 rfl) ?_
    refine lv_icmp_le (tgt := 21) hx hb dX11_needRange_7 (by decide) (fun c_2 => ?_) (fun c_2 => ?_)
    · have nc_2 : p0.toInt ≤ p2.toInt := (xi_le rfl rfl).mp c_2
      refine vx_ret ?_
      have hP9 := hP.sub (ws' := []) [] rfl
      have hD9 := hD.sub (ws' := []) [] (by decide) rfl
      refine W.widen (k := 1) (n := 6) (Nat.le_of_ble_eq_true rfl) (Nat.le_of_ble_eq_true rfl) ?_
      exact W.vret hx hb hr (fun t ht hW => ⟨⟨(), rfl, trivial, ⟨⟨nc_1, nc_2⟩, by rw [ht]; exact hP9, hD9⟩⟩, hS.F ht⟩) hS.2.2 dX11_needRange_21
    · have nc_2 : ¬ (p0.toInt ≤ p2.toInt) := mt (xi_le rfl rfl).mpr c_2
      obtain ⟨sa, hsa⟩ := hG.2.2.2.2.1 (RX11, 385, "a number is out of range") (by decide +kernel)
      have hP9 := hP.sub (ws' := []) [] rfl
      have hD9 := hD.sub (ws' := []) [] (by decide) rfl
      exact vx_throwSW (cls := "java/lang/IllegalArgumentException") (names := ["java/lang/RuntimeException", "java/lang/Exception"]) (text := "a number is out of range") (ic := 214) hx hb hst hown (by decide +kernel) (by decide +kernel) (hts (.classLink RX11 210 "java/lang/IllegalArgumentException") (by decide +kernel)) (hts (.initialized "java/lang/IllegalArgumentException") (by decide +kernel)) hsa hat_214 (by decide +kernel) hG.1 hG.2.1 hS (by rw [hml]; exact hl.1) dX11_needRange_10 dX11_needRange_13 dX11_needRange_14 dX11_needRange_17 dX11_needRange_20 (fun x hx => absurd (hex x hx) id) (Nat.le_of_ble_eq_true rfl) (Nat.le_of_ble_eq_true rfl) (Nat.le_of_ble_eq_true rfl) (Nat.le_of_ble_eq_true rfl) hlocks (fun t hvm hz1 hk1 => ⟨(), trivial, ⟨(Or.inr (⟨nc_1, nc_2⟩)), rfl, hP9.kept (fun k x hx => hk1 x.1 ((hP9 k x hx).lt)), hD9⟩, xthrF hS hz1 hk1⟩) hS.2.2 (Nat.le_of_ble_eq_true rfl) (Nat.le_of_ble_eq_true rfl)
set_option maxHeartbeats 4000000 in
set_option maxRecDepth 100000 in
theorem xcJ6_bitCount_0f7a4 (l : Launch) (hst : l.stackTraces = false) (dC : Nat → ClassId) (dI : Nat → Nat → Nat) (T : Nat → ClassId) (sz : Nat) : Met l yJ6_bitCount_0f7a4 wsJ6_bitCount_0f7a4 ({ frames := 0, cells := 0, slots := 0, locals := 0 } : Room) (va_Pc [.int 0] (fun U => xB dC dI T [] sz U)) (va_Qi (fun (r u : Int32) => r = u) (fun (u : Int32) (t : State) => 0 = u ∧ xE dC dI [] (va_A [] sz) t) (va_A [] sz)) 0 0 (va_A [] sz) := by
  refine Met.ofW (cc := cJ6_bitCount_0f7a4) (maxL := 1) (ret := (some .int)) (by decide +kernel) rfl ?_
  intro p e s m args below meth c s₁ B hml hv
  obtain ⟨rfl, hsz, hP, hK, hD0, hG⟩ := hv
  have hx := B.exec
  have hb := B.bytes
  have hr := B.returns
  have hts := atoms_spec (ws := wsJ6_bitCount_0f7a4) B.pre
  have hown : s.vm.findClass RJ6 = some m.cls := findClass_of_methodNamed B.named
  have hlocks := B.notSynchronized
  subst hsz
  have hD := hD0.self (sz := s.heap.size)
  generalize hAe : va_A [] s.heap.size = A at hD hG ⊢
  have hA : ∀ q : Nat, s.heap.size ≤ q → A q := fun q h => by rw [← hAe]; exact Or.inr h
  have hS : va_S A s.heap s.heap [] := va_S.rf
  have hl := lv_entry ([.int 0]) (n := 1) (Nat.le_of_ble_eq_true rfl)
  rw [lg_entry_eq]
  generalize (lg_sl ([.int 0]) ++ List.replicate (1 - (lg_sl ([.int 0])).length) Slot.unset).toArray = ls at hl ⊢
  have hl : lv_has ls 1 [(0, .int 0)] := hl
  refine lv_iload_n hx hb dJ6_bitCount_0f7a4_0 rfl (lv_at hl 0 rfl) ?_
  refine lv_iload_n hx hb dJ6_bitCount_0f7a4_1 rfl (lv_at hl 0 rfl) ?_
  refine lv_iconst (v := 1) hx hb dJ6_bitCount_0f7a4_2 (by decide) ?_
  refine lv_iushr (v := 0) hx hb dJ6_bitCount_0f7a4_3 (by decide +kernel) ?_
  refine lv_ldcw (v := 1431655765) hx hb hown (hts (.constant RJ6 265 1431655765) (by decide +kernel)) dJ6_bitCount_0f7a4_4 ?_
  refine lv_iand hx hb dJ6_bitCount_0f7a4_7 ?_
  refine lv_topi (fun f_1 ef_1 => ?_)
  obtain rfl : f_1 = 0 := ef_1.trans (by decide)
  refine lv_isub hx hb dJ6_bitCount_0f7a4_8 ?_
  refine lv_topi (fun f_2 ef_2 => ?_)
  obtain rfl : f_2 = 0 := ef_2.trans (by decide)
  refine lv_istore_n (lv' := [(0, .int 0)]) hx hb dJ6_bitCount_0f7a4_9 rfl hl (by decide) rfl (fun ls hl => ?_)
  refine lv_iload_n hx hb dJ6_bitCount_0f7a4_10 rfl (lv_at hl 0 rfl) ?_
  refine lv_ldcw (v := 858993459) hx hb hown (hts (.constant RJ6 266 858993459) (by decide +kernel)) dJ6_bitCount_0f7a4_11 ?_
  refine lv_iand hx hb dJ6_bitCount_0f7a4_14 ?_
  refine lv_topi (fun f_3 ef_3 => ?_)
  obtain rfl : f_3 = 0 := ef_3.trans (by decide)
  refine lv_iload_n hx hb dJ6_bitCount_0f7a4_15 rfl (lv_at hl 0 rfl) ?_
  refine lv_iconst (v := 2) hx hb dJ6_bitCount_0f7a4_16 (by decide) ?_
  refine lv_iushr (v := 0) hx hb dJ6_bitCount_0f7a4_17 (by decide +kernel) ?_
  refine lv_ldcw (v := 858993459) hx hb hown (hts (.constant RJ6 266 858993459) (by decide +kernel)) dJ6_bitCount_0f7a4_18 ?_
  refine lv_iand hx hb dJ6_bitCount_0f7a4_21 ?_
  refine lv_topi (fun f_4 ef_4 => ?_)
  obtain rfl : f_4 = 0 := ef_4.trans (by decide)
  refine lv_iadd hx hb dJ6_bitCount_0f7a4_22 ?_
  refine lv_topi (fun f_5 ef_5 => ?_)
  obtain rfl : f_5 = 0 := ef_5.trans (by decide)
  refine lv_istore_n (lv' := [(0, .int 0)]) hx hb dJ6_bitCount_0f7a4_23 rfl hl (by decide) rfl (fun ls hl => ?_)
  refine lv_iload_n hx hb dJ6_bitCount_0f7a4_24 rfl (lv_at hl 0 rfl) ?_
  refine lv_iload_n hx hb dJ6_bitCount_0f7a4_25 rfl (lv_at hl 0 rfl) ?_
  refine lv_iconst (v := 4) hx hb dJ6_bitCount_0f7a4_26 (by decide) ?_
  refine lv_iushr (v := 0) hx hb dJ6_bitCount_0f7a4_27 (by decide +kernel) ?_
  refine lv_iadd hx hb dJ6_bitCount_0f7a4_28 ?_
  refine lv_topi (fun f_6 ef_6 => ?_)
  obtain rfl : f_6 = 0 := ef_6.trans (by decide)
  refine lv_ldcw (v := 252645135) hx hb hown (hts (.constant RJ6 267 252645135) (by decide +kernel)) dJ6_bitCount_0f7a4_29 ?_
  refine lv_iand hx hb dJ6_bitCount_0f7a4_32 ?_
  refine lv_topi (fun f_7 ef_7 => ?_)
  obtain rfl : f_7 = 0 := ef_7.trans (by decide)
  refine lv_istore_n (lv' := [(0, .int 0)]) hx hb dJ6_bitCount_0f7a4_33 rfl hl (by decide) rfl (fun ls hl => ?_)
  refine lv_iload_n hx hb dJ6_bitCount_0f7a4_34 rfl (lv_at hl 0 rfl) ?_
  refine lv_iload_n hx hb dJ6_bitCount_0f7a4_35 rfl (lv_at hl 0 rfl) ?_
  refine lv_bipush (v := 8) hx hb dJ6_bitCount_0f7a4_36 (by decide) ?_
  refine lv_iushr (v := 0) hx hb dJ6_bitCount_0f7a4_38 (by decide +kernel) ?_
  refine lv_iadd hx hb dJ6_bitCount_0f7a4_39 ?_
  refine lv_topi (fun f_8 ef_8 => ?_)
  obtain rfl : f_8 = 0 := ef_8.trans (by decide)
  refine lv_istore_n (lv' := [(0, .int 0)]) hx hb dJ6_bitCount_0f7a4_40 rfl hl (by decide) rfl (fun ls hl => ?_)
  refine lv_iload_n hx hb dJ6_bitCount_0f7a4_41 rfl (lv_at hl 0 rfl) ?_
  refine lv_iload_n hx hb dJ6_bitCount_0f7a4_42 rfl (lv_at hl 0 rfl) ?_
  refine lv_bipush (v := 16) hx hb dJ6_bitCount_0f7a4_43 (by decide) ?_
  refine lv_iushr (v := 0) hx hb dJ6_bitCount_0f7a4_45 (by decide +kernel) ?_
  refine lv_iadd hx hb dJ6_bitCount_0f7a4_46 ?_
  refine lv_topi (fun f_9 ef_9 => ?_)
  obtain rfl : f_9 = 0 := ef_9.trans (by decide)
  refine lv_istore_n (lv' := [(0, .int 0)]) hx hb dJ6_bitCount_0f7a4_47 rfl hl (by decide) rfl (fun ls hl => ?_)
  refine lv_iload_n hx hb dJ6_bitCount_0f7a4_48 rfl (lv_at hl 0 rfl) ?_
  refine lv_bipush (v := 63) hx hb dJ6_bitCount_0f7a4_49 (by decide) ?_
  refine lv_iand hx hb dJ6_bitCount_0f7a4_51 ?_
  refine lv_topi (fun f_10 ef_10 => ?_)
  obtain rfl : f_10 = 0 := ef_10.trans (by decide)
  have hP9 := hP.sub (ws' := []) [] rfl
  have hD9 := hD.sub (ws' := []) [] (by decide) rfl
  exact W.iret (v := 0) hx hb hr (fun t ht hW => ⟨⟨_, _, rfl, rfl, ⟨rfl, by rw [ht]; exact hP9, hD9⟩⟩, hS.F ht⟩) hS.2.2 dJ6_bitCount_0f7a4_52
set_option maxHeartbeats 4000000 in
set_option maxRecDepth 100000 in
theorem xcX5_count (l : Launch) (hst : l.stackTraces = false) (dC : Nat → ClassId) (dI : Nat → Nat → Nat) (T : Nat → ClassId) (a1 : Nat) (a2 : Nat) (a3 : Nat) (a4 : Nat) (a5 : Nat) (a6 : Nat) (sz : Nat) : Met l yX5_count wsX5_count ({ frames := 1, cells := 0, slots := 0, locals := 20 } : Room) (va_Pc [.ref a1] (fun U => xB dC dI T [(a1, .inr (10, [.ref a2, .ref a3, .ref a4, .ref a5, .ref a6, .int 0, .int 0]))] sz U)) (va_Qi (fun (r u : Int32) => r = u) (fun (u : Int32) (t : State) => 0 = u ∧ xE dC dI [(a1, .inr (10, [.ref a2, .ref a3, .ref a4, .ref a5, .ref a6, .int 0, .int 0]))] (va_A [(a1, .inr (10, [.ref a2, .ref a3, .ref a4, .ref a5, .ref a6, .int 0, .int 0]))] sz) t) (va_A [(a1, .inr (10, [.ref a2, .ref a3, .ref a4, .ref a5, .ref a6, .int 0, .int 0]))] sz)) 0 0 (va_A [(a1, .inr (10, [.ref a2, .ref a3, .ref a4, .ref a5, .ref a6, .int 0, .int 0]))] sz) := by
  refine Met.ofW (cc := cX5_count) (maxL := 1) (ret := (some .int)) (by decide +kernel) rfl ?_
  intro p e s m args below meth c s₁ B hml hv
  obtain ⟨rfl, hsz, hP, hK, hD0, hG⟩ := hv
  have hx := B.exec
  have hb := B.bytes
  have hr := B.returns
  have hts := atoms_spec (ws := wsX5_count) B.pre
  have hown : s.vm.findClass RX5 = some m.cls := findClass_of_methodNamed B.named
  have hlocks := B.notSynchronized
  have hin_X5 : ∀ w ∈ wsX50, w ∈ wsX5_count := by decide +kernel
  subst hsz
  have hD := hD0.self (sz := s.heap.size)
  generalize hAe : va_A [(a1, .inr (10, [.ref a2, .ref a3, .ref a4, .ref a5, .ref a6, .int 0, .int 0]))] s.heap.size = A at hD hG ⊢
  have hA : ∀ q : Nat, s.heap.size ≤ q → A q := fun q h => by rw [← hAe]; exact Or.inr h
  have hS : va_S A s.heap s.heap [] := va_S.rf
  have hl := lv_entry ([.ref a1]) (n := 1) (Nat.le_of_ble_eq_true rfl)
  rw [lg_entry_eq]
  generalize (lg_sl ([.ref a1]) ++ List.replicate (1 - (lg_sl ([.ref a1])).length) Slot.unset).toArray = ls at hl ⊢
  have hl : lv_has ls 1 [(0, .ref a1)] := hl
  refine lv_aload_n hx hb dX5_count_0 rfl (lv_at hl 0 rfl) ?_
  refine va_get (D := (dC, dI)) (ci := 10) (v := .int 0) (C := RX5) (T := TX5) (N := 7) hx hb hts hin_X5 hown hK hP 0 rfl rfl 5 (by decide) (hts (.fieldLink RX5 27 "Nearestward$Ground" "there" "I") (by decide +kernel)) (fun _ h9 => h9) rfl dX5_count_1 ?_
  have hPc := hP.sub (ws' := []) [] rfl
  have hDc := hD.sub (ws' := []) [] (by decide) rfl
  have hFc := va_free (wc := []) hD hS hA [] rfl
  refine va_calli (va_runS (As := [.int 0]) (rest := []) ⟨hx, hb, hml, hown, hts⟩ (xcJ6_bitCount_0f7a4 l hst dC dI T s.heap.size) (va_cwS 1 hts gX5_count_J6_bitCount_0f7a4 rfl rfl rfl (by decide +kernel) ⟨Nat.le_of_ble_eq_true rfl, Nat.le_of_ble_eq_true rfl⟩) ⟨xBlind, xCall hK hG hS hPc hDc hFc⟩ rfl rfl hl.1 rfl (lv_room (Nat.le_of_ble_eq_true rfl)) dX5_count_4 ⟨Nat.le_of_ble_eq_true rfl, Nat.le_of_ble_eq_true rfl⟩) hS (fun q _ h => hFc q h) hFc (fun r_9 u t H locs ht hvm hw hB hz1 hk1 hS => ?_)
  subst hw
  rcases hB with ⟨hr_9, hP1, hD1⟩
  rw [ht] at hP1
  subst hr_9
  obtain ⟨hP, hD⟩ := va_join (wr := [(a1, .inr (10, [.ref a2, .ref a3, .ref a4, .ref a5, .ref a6, .int 0, .int 0]))]) (w1 := []) hP hD [] [0] rfl rfl (by decide) (by decide) hk1 hFc hP1 hD1
  have hP : va_P (dC, dI) vwCl [(a1, .inr (10, [.ref a2, .ref a3, .ref a4, .ref a5, .ref a6, .int 0, .int 0]))] H := hP
  have hD : va_D A [(a1, .inr (10, [.ref a2, .ref a3, .ref a4, .ref a5, .ref a6, .int 0, .int 0]))] := hD
  clear hPc hDc hFc hP1 hD1 hk1 hz1 ht hvm
  have hP9 := hP.sub (ws' := [(a1, .inr (10, [.ref a2, .ref a3, .ref a4, .ref a5, .ref a6, .int 0, .int 0]))]) [0] rfl
  have hD9 := hD.sub (ws' := [(a1, .inr (10, [.ref a2, .ref a3, .ref a4, .ref a5, .ref a6, .int 0, .int 0]))]) [0] (by decide) rfl
  exact W.iret (v := 0) hx hb hr (fun t ht hW => ⟨⟨_, _, rfl, rfl, ⟨rfl, by rw [ht]; exact hP9, hD9⟩⟩, hS.F ht⟩) hS.2.2 dX5_count_7
set_option maxHeartbeats 4000000 in
set_option maxRecDepth 100000 in
theorem xcX11_cluster (l : Launch) (hst : l.stackTraces = false) (dC : Nat → ClassId) (dI : Nat → Nat → Nat) (T : Nat → ClassId) (a1 : Nat) (a2 : Nat) (a3 : Nat) (a4 : Nat) (a5 : Nat) (a6 : Nat) (a7 : Nat) (a8 : Nat) (a9 : Nat) (a10 : Nat) (a11 : Nat) (a12 : Nat) (a13 : Nat) (a14 : Nat) (a15 : Nat) (a16 : Nat) (sz : Nat) (p1 : Int32) (p2 : Int32) (p3 : Int32) : vx_Met l yX11_cluster wsX11_cluster ({ frames := 7, cells := 1, slots := 6, locals := 103 } : Room) (va_Pc [.ref a1, .int p1, .int p2, .int p3] (fun U => xB dC dI T [(a1, .inr (16, [.ref a2, .ref a3, .ref a4, .ref a5, .ref a6, .ref a7, .ref a8, .ref a9, .ref a10, .ref a11])), (a2, .inr (10, [.ref a12, .ref a13, .ref a14, .ref a15, .ref a16, .int 0, .int 0]))] sz U)) (va_Qi (fun (r u : Int32) => r = u) (fun (u : Int32) (t : State) => False) (va_A [(a1, .inr (16, [.ref a2, .ref a3, .ref a4, .ref a5, .ref a6, .ref a7, .ref a8, .ref a9, .ref a10, .ref a11])), (a2, .inr (10, [.ref a12, .ref a13, .ref a14, .ref a15, .ref a16, .int 0, .int 0]))] sz)) (vx_X (fun _ : Unit => True) (fun (E : String) (_ : Unit) (t : State) => E = "java/lang/IndexOutOfBoundsException" ∧ xE dC dI [] (va_A [(a1, .inr (16, [.ref a2, .ref a3, .ref a4, .ref a5, .ref a6, .ref a7, .ref a8, .ref a9, .ref a10, .ref a11])), (a2, .inr (10, [.ref a12, .ref a13, .ref a14, .ref a15, .ref a16, .int 0, .int 0]))] sz) t) (va_A [(a1, .inr (16, [.ref a2, .ref a3, .ref a4, .ref a5, .ref a6, .ref a7, .ref a8, .ref a9, .ref a10, .ref a11])), (a2, .inr (10, [.ref a12, .ref a13, .ref a14, .ref a15, .ref a16, .int 0, .int 0]))] sz)) 1 6 (va_A [(a1, .inr (16, [.ref a2, .ref a3, .ref a4, .ref a5, .ref a6, .ref a7, .ref a8, .ref a9, .ref a10, .ref a11])), (a2, .inr (10, [.ref a12, .ref a13, .ref a14, .ref a15, .ref a16, .int 0, .int 0]))] sz) := by
  refine vx_ofW (cc := cX11_cluster) (maxL := 4) (ret := (some .int)) (by decide +kernel) rfl ?_
  intro p e s m args below meth c s₁ B hml hex hv
  obtain ⟨rfl, hsz, hP, hK, hD0, hG⟩ := hv
  have hx := B.exec
  have hb := B.bytes
  have hr := B.returns
  have hts := atoms_spec (ws := wsX11_cluster) B.pre
  have hown : s.vm.findClass RX11 = some m.cls := findClass_of_methodNamed B.named
  have hlocks := B.notSynchronized
  subst hsz
  have hD := hD0.self (sz := s.heap.size)
  generalize hAe : va_A [(a1, .inr (16, [.ref a2, .ref a3, .ref a4, .ref a5, .ref a6, .ref a7, .ref a8, .ref a9, .ref a10, .ref a11])), (a2, .inr (10, [.ref a12, .ref a13, .ref a14, .ref a15, .ref a16, .int 0, .int 0]))] s.heap.size = A at hD hG ⊢
  have hA : ∀ q : Nat, s.heap.size ≤ q → A q := fun q h => by rw [← hAe]; exact Or.inr h
  have hS : va_S A s.heap s.heap [] := va_S.rf
  have hl := lv_entry ([.ref a1, .int p1, .int p2, .int p3]) (n := 4) (Nat.le_of_ble_eq_true rfl)
  rw [lg_entry_eq]
  generalize (lg_sl ([.ref a1, .int p1, .int p2, .int p3]) ++ List.replicate (4 - (lg_sl ([.ref a1, .int p1, .int p2, .int p3])).length) Slot.unset).toArray = ls at hl ⊢
  have hl : lv_has ls 4 [(0, .ref a1), (1, .int p1), (2, .int p2), (3, .int p3)] := hl
  refine lv_aload_n hx hb dX11_cluster_0 rfl (lv_at hl 0 rfl) ?_
  refine lv_iload_n hx hb dX11_cluster_1 rfl (lv_at hl 3 rfl) ?_
  have hPc := hP.sub (ws' := [(a1, .inr (16, [.ref a2, .ref a3, .ref a4, .ref a5, .ref a6, .ref a7, .ref a8, .ref a9, .ref a10, .ref a11])), (a2, .inr (10, [.ref a12, .ref a13, .ref a14, .ref a15, .ref a16, .int 0, .int 0]))]) [0, 1] rfl
  have hDc := hD.sub (ws' := [(a1, .inr (16, [.ref a2, .ref a3, .ref a4, .ref a5, .ref a6, .ref a7, .ref a8, .ref a9, .ref a10, .ref a11])), (a2, .inr (10, [.ref a12, .ref a13, .ref a14, .ref a15, .ref a16, .int 0, .int 0]))]) [0, 1] (by decide) rfl
  have hFc := va_free (wc := [(a1, .inr (16, [.ref a2, .ref a3, .ref a4, .ref a5, .ref a6, .ref a7, .ref a8, .ref a9, .ref a10, .ref a11])), (a2, .inr (10, [.ref a12, .ref a13, .ref a14, .ref a15, .ref a16, .int 0, .int 0]))]) hD hS hA [0, 1] rfl
  refine vx_callv (vx_runV (As := [.int p3]) (rest := []) ⟨hx, hb, hml, hown, hts⟩ (xcX11_needPoint l hst dC dI T a1 a2 a3 a4 a5 a6 a7 a8 a9 a10 a11 a12 a13 a14 a15 a16 s.heap.size p3) (cwV 1 hts gX11_cluster_X11_needPoint rfl rfl rfl (by decide +kernel) ⟨Nat.le_of_ble_eq_true rfl, Nat.le_of_ble_eq_true rfl⟩) ⟨xBlind, va_recv hK hPc (ci := 16) (q0 := 0) rfl rfl, xCall hK hG hS hPc hDc hFc⟩ rfl rfl hl.1 rfl (lv_room (Nat.le_of_ble_eq_true rfl)) dX11_cluster_2 ⟨Nat.le_of_ble_eq_true rfl, Nat.le_of_ble_eq_true rfl⟩) hS (fun q _ h => hFc q h) hFc (fun q _ h => hFc q h) (fun E ce q9 u t H locs ht hvm hw hB hz1 hk1 hS hce hcv hcl => ?_) (fun u t H locs ht hvm hw hB hz1 hk1 hS => ?_)
  · rcases hB with ⟨hE, hP1, hD1⟩
    subst hE
    rw [ht] at hP1
    obtain ⟨hP, hD⟩ := va_join (wr := []) (w1 := [(a1, .inr (16, [.ref a2, .ref a3, .ref a4, .ref a5, .ref a6, .ref a7, .ref a8, .ref a9, .ref a10, .ref a11])), (a2, .inr (10, [.ref a12, .ref a13, .ref a14, .ref a15, .ref a16, .int 0, .int 0]))]) hP hD [0, 1] [] rfl rfl (by decide) (by decide) hk1 hFc hP1 hD1
    have hP : va_P (dC, dI) vwCl [(a1, .inr (16, [.ref a2, .ref a3, .ref a4, .ref a5, .ref a6, .ref a7, .ref a8, .ref a9, .ref a10, .ref a11])), (a2, .inr (10, [.ref a12, .ref a13, .ref a14, .ref a15, .ref a16, .int 0, .int 0]))] H := hP
    have hD : va_D A [(a1, .inr (16, [.ref a2, .ref a3, .ref a4, .ref a5, .ref a6, .ref a7, .ref a8, .ref a9, .ref a10, .ref a11])), (a2, .inr (10, [.ref a12, .ref a13, .ref a14, .ref a15, .ref a16, .int 0, .int 0]))] := hD
    clear hPc hDc hFc hP1 hD1 hk1 hz1 ht hvm
    have hP9 := hP.sub (ws' := []) [] rfl
    have hD9 := hD.sub (ws' := []) [] (by decide) rfl
    exact vx_out (fun x hx => absurd (hex x hx) id) hlocks hce hcv hcl (fun t ht _ => ⟨(), trivial, ⟨rfl, by rw [ht]; exact hP9, hD9⟩, hS.F ht⟩) hS.2.2 (Nat.le_of_ble_eq_true rfl) (Nat.le_of_ble_eq_true rfl)
  · exact absurd hB id
set_option maxHeartbeats 4000000 in
set_option maxRecDepth 100000 in
theorem xcL_cluster (l : Launch) (hst : l.stackTraces = false) (dC : Nat → ClassId) (dI : Nat → Nat → Nat) (T : Nat → ClassId) (a1 : Nat) (a2 : Nat) (a3 : Nat) (a4 : Nat) (a5 : Nat) (a6 : Nat) (a7 : Nat) (a8 : Nat) (a9 : Nat) (a10 : Nat) (a11 : Nat) (a12 : Nat) (a13 : Nat) (a14 : Nat) (a15 : Nat) (a16 : Nat) (a17 : Nat) (sz : Nat) (p1 : Int32) (p2 : Int32) (p3 : Int32) : Met l yL_cluster wsL_cluster ({ frames := 8, cells := 1, slots := 6, locals := 126 } : Room) (va_Pc [.ref a1, .int p1, .int p2, .int p3, .ref a2] (fun U => xB dC dI T [(a1, .inr (16, [.ref a3, .ref a4, .ref a5, .ref a6, .ref a7, .ref a8, .ref a9, .ref a10, .ref a11, .ref a12])), (a3, .inr (10, [.ref a13, .ref a14, .ref a15, .ref a16, .ref a17, .int 0, .int 0]))] sz U)) (va_Qi (fun (r u : Int32) => r = u) (fun (u : Int32) (t : State) => 1 = u ∧ xE dC dI [] (va_A [(a1, .inr (16, [.ref a3, .ref a4, .ref a5, .ref a6, .ref a7, .ref a8, .ref a9, .ref a10, .ref a11, .ref a12])), (a3, .inr (10, [.ref a13, .ref a14, .ref a15, .ref a16, .ref a17, .int 0, .int 0]))] sz) t) (va_A [(a1, .inr (16, [.ref a3, .ref a4, .ref a5, .ref a6, .ref a7, .ref a8, .ref a9, .ref a10, .ref a11, .ref a12])), (a3, .inr (10, [.ref a13, .ref a14, .ref a15, .ref a16, .ref a17, .int 0, .int 0]))] sz)) 1 6 (va_A [(a1, .inr (16, [.ref a3, .ref a4, .ref a5, .ref a6, .ref a7, .ref a8, .ref a9, .ref a10, .ref a11, .ref a12])), (a3, .inr (10, [.ref a13, .ref a14, .ref a15, .ref a16, .ref a17, .int 0, .int 0]))] sz) := by
  refine va_MetW (cc := cL_cluster) (maxL := 6) (ret := (some .int)) (hh := [(0, 12, 15, 23), (0, 12, 19, 13)]) (by decide +kernel) rfl ?_
  intro p e s m args below meth c s₁ B hml hv
  obtain ⟨rfl, hsz, hP, hK, hD0, hG⟩ := hv
  have hx := B.exec
  have hb := B.bytes
  have hr := B.returns
  have hts := atoms_spec (ws := wsL_cluster) B.pre
  have hown : s.vm.findClass RL = some m.cls := findClass_of_methodNamed B.named
  have hlocks := B.notSynchronized
  have htab := vx_table (x := yL_cluster) B (hts (.codeWith yL_cluster cL_cluster 6 (some .int) [(0, 12, 15, 23), (0, 12, 19, 13)]) (by decide +kernel))
  subst hsz
  have hD := hD0.self (sz := s.heap.size)
  generalize hAe : va_A [(a1, .inr (16, [.ref a3, .ref a4, .ref a5, .ref a6, .ref a7, .ref a8, .ref a9, .ref a10, .ref a11, .ref a12])), (a3, .inr (10, [.ref a13, .ref a14, .ref a15, .ref a16, .ref a17, .int 0, .int 0]))] s.heap.size = A at hD hG ⊢
  have hA : ∀ q : Nat, s.heap.size ≤ q → A q := fun q h => by rw [← hAe]; exact Or.inr h
  have hS : va_S A s.heap s.heap [] := va_S.rf
  have hl := lv_entry ([.ref a1, .int p1, .int p2, .int p3, .ref a2]) (n := 6) (Nat.le_of_ble_eq_true rfl)
  rw [lg_entry_eq]
  generalize (lg_sl ([.ref a1, .int p1, .int p2, .int p3, .ref a2]) ++ List.replicate (6 - (lg_sl ([.ref a1, .int p1, .int p2, .int p3, .ref a2])).length) Slot.unset).toArray = ls at hl ⊢
  have hl : lv_has ls 6 [(0, .ref a1), (1, .int p1), (2, .int p2), (3, .int p3), (4, .ref a2)] := hl
  refine lv_aload hx hb dL_cluster_0 (lv_at hl 4 rfl) ?_
  refine lv_iconst (v := 0) hx hb dL_cluster_2 (by decide) ?_
  refine lv_aload_n hx hb dL_cluster_3 rfl (lv_at hl 0 rfl) ?_
  refine lv_iload_n hx hb dL_cluster_4 rfl (lv_at hl 1 rfl) ?_
  refine lv_iload_n hx hb dL_cluster_5 rfl (lv_at hl 2 rfl) ?_
  refine lv_iload_n hx hb dL_cluster_6 rfl (lv_at hl 3 rfl) ?_
  have hPc := hP.sub (ws' := [(a1, .inr (16, [.ref a3, .ref a4, .ref a5, .ref a6, .ref a7, .ref a8, .ref a9, .ref a10, .ref a11, .ref a12])), (a3, .inr (10, [.ref a13, .ref a14, .ref a15, .ref a16, .ref a17, .int 0, .int 0]))]) [0, 1] rfl
  have hDc := hD.sub (ws' := [(a1, .inr (16, [.ref a3, .ref a4, .ref a5, .ref a6, .ref a7, .ref a8, .ref a9, .ref a10, .ref a11, .ref a12])), (a3, .inr (10, [.ref a13, .ref a14, .ref a15, .ref a16, .ref a17, .int 0, .int 0]))]) [0, 1] (by decide) rfl
  have hFc := va_free (wc := [(a1, .inr (16, [.ref a3, .ref a4, .ref a5, .ref a6, .ref a7, .ref a8, .ref a9, .ref a10, .ref a11, .ref a12])), (a3, .inr (10, [.ref a13, .ref a14, .ref a15, .ref a16, .ref a17, .int 0, .int 0]))]) hD hS hA [0, 1] rfl
  refine vx_calli (vx_runV (As := [.int p1, .int p2, .int p3]) (rest := [.int 0, .ref a2]) ⟨hx, hb, hml, hown, hts⟩ (xcX11_cluster l hst dC dI T a1 a3 a4 a5 a6 a7 a8 a9 a10 a11 a12 a13 a14 a15 a16 a17 s.heap.size p1 p2 p3) (cwV 3 hts gL_cluster_X11_cluster rfl rfl rfl (by decide +kernel) ⟨Nat.le_of_ble_eq_true rfl, Nat.le_of_ble_eq_true rfl⟩) ⟨xBlind, va_recv hK hPc (ci := 16) (q0 := 0) rfl rfl, xCall hK hG hS hPc hDc hFc⟩ rfl rfl hl.1 rfl (lv_room (Nat.le_of_ble_eq_true rfl)) dL_cluster_7 ⟨Nat.le_of_ble_eq_true rfl, Nat.le_of_ble_eq_true rfl⟩) hS (fun q _ h => hFc q h) hFc (fun q _ h => hFc q h) (fun E ce q9 u t H locs ht hvm hw hB hz1 hk1 hS hce hcv hcl => ?_) (fun r_9 u t H locs ht hvm hw hB hz1 hk1 hS => ?_)
  · rcases hB with ⟨hE, hP1, hD1⟩
    subst hE
    rw [ht] at hP1
    obtain ⟨hP, hD⟩ := va_join (wr := []) (w1 := []) hP hD [0, 1] [] rfl rfl (by decide) (by decide) hk1 hFc hP1 hD1
    have hP : va_P (dC, dI) vwCl [] H := hP
    have hD : va_D A [] := hD
    clear hPc hDc hFc hP1 hD1 hk1 hz1 ht hvm
    refine vx_catch (E := "java/lang/IndexOutOfBoundsException") (name := "java/lang/IndexOutOfBoundsException") hown [] ⟨0, 12, 15, 23⟩ [⟨0, 12, 19, 13⟩] (htab.trans rfl) (fun _ h => absurd h List.not_mem_nil) (by decide) (by decide) (hts (.classLink RL 23 "java/lang/IndexOutOfBoundsException") (by decide +kernel)) (xBad_use hG.2.2.2.1 _ (by decide +kernel)) hce hcv hcl ?_
    refine lv_astore (lv' := [(5, .ref q9), (0, .ref a1), (1, .int p1), (2, .int p2), (3, .int p3), (4, .ref a2)]) hx hb dL_cluster_15 hl (by decide) rfl (fun ls hl => ?_)
    refine lv_iconst (v := 1) hx hb dL_cluster_17 (by decide) ?_
    have hP9 := hP.sub (ws' := []) [] rfl
    have hD9 := hD.sub (ws' := []) [] (by decide) rfl
    exact W.iret (v := 1) hx hb hr (fun t ht hW => ⟨⟨_, _, rfl, rfl, ⟨rfl, by rw [ht]; exact hP9, hD9⟩⟩, hS.F ht⟩) hS.2.2 dL_cluster_18
  · exact absurd hB id
set_option maxHeartbeats 4000000 in
set_option maxRecDepth 100000 in
theorem xcJ6_bitCount_0f7a4_v2 (l : Launch) (hst : l.stackTraces = false) (dC : Nat → ClassId) (dI : Nat → Nat → Nat) (T : Nat → ClassId) (sz : Nat) (p0 : Int32) : Met l yJ6_bitCount_0f7a4 wsJ6_bitCount_0f7a4 ({ frames := 0, cells := 0, slots := 0, locals := 0 } : Room) (va_Pc [.int p0] (fun U => xB dC dI T [] sz U)) (va_Qi (fun (r u : Int32) => r = u) (fun (u : Int32) (t : State) => ∃ (f_15 : Int32), (0 ≤ f_15.toInt) ∧ f_15 = u ∧ xE dC dI [] (va_A [] sz) t) (va_A [] sz)) 0 0 (va_A [] sz) := by
  refine Met.ofW (cc := cJ6_bitCount_0f7a4) (maxL := 1) (ret := (some .int)) (by decide +kernel) rfl ?_
  intro p e s m args below meth c s₁ B hml hv
  obtain ⟨rfl, hsz, hP, hK, hD0, hG⟩ := hv
  have hx := B.exec
  have hb := B.bytes
  have hr := B.returns
  have hts := atoms_spec (ws := wsJ6_bitCount_0f7a4) B.pre
  have hown : s.vm.findClass RJ6 = some m.cls := findClass_of_methodNamed B.named
  have hlocks := B.notSynchronized
  subst hsz
  have hD := hD0.self (sz := s.heap.size)
  generalize hAe : va_A [] s.heap.size = A at hD hG ⊢
  have hA : ∀ q : Nat, s.heap.size ≤ q → A q := fun q h => by rw [← hAe]; exact Or.inr h
  have hS : va_S A s.heap s.heap [] := va_S.rf
  have hl := lv_entry ([.int p0]) (n := 1) (Nat.le_of_ble_eq_true rfl)
  rw [lg_entry_eq]
  generalize (lg_sl ([.int p0]) ++ List.replicate (1 - (lg_sl ([.int p0])).length) Slot.unset).toArray = ls at hl ⊢
  have hl : lv_has ls 1 [(0, .int p0)] := hl
  refine lv_iload_n hx hb dJ6_bitCount_0f7a4_0 rfl (lv_at hl 0 rfl) ?_
  refine lv_iload_n hx hb dJ6_bitCount_0f7a4_1 rfl (lv_at hl 0 rfl) ?_
  refine lv_iconst (v := 1) hx hb dJ6_bitCount_0f7a4_2 (by decide) ?_
  refine lv_iushr hx hb dJ6_bitCount_0f7a4_3 rfl ?_
  refine lv_topi (fun f_1 ef_1 => ?_)
  refine lv_ldcw (v := 1431655765) hx hb hown (hts (.constant RJ6 265 1431655765) (by decide +kernel)) dJ6_bitCount_0f7a4_4 ?_
  refine lv_iand hx hb dJ6_bitCount_0f7a4_7 ?_
  refine lv_topi (fun f_2 ef_2 => ?_)
  refine lv_isub hx hb dJ6_bitCount_0f7a4_8 ?_
  refine lv_topi (fun f_3 ef_3 => ?_)
  refine lv_istore_n (lv' := [(0, .int f_3)]) hx hb dJ6_bitCount_0f7a4_9 rfl hl (by decide) rfl (fun ls hl => ?_)
  refine lv_iload_n hx hb dJ6_bitCount_0f7a4_10 rfl (lv_at hl 0 rfl) ?_
  refine lv_ldcw (v := 858993459) hx hb hown (hts (.constant RJ6 266 858993459) (by decide +kernel)) dJ6_bitCount_0f7a4_11 ?_
  refine lv_iand hx hb dJ6_bitCount_0f7a4_14 ?_
  refine lv_topi (fun f_4 ef_4 => ?_)
  refine lv_iload_n hx hb dJ6_bitCount_0f7a4_15 rfl (lv_at hl 0 rfl) ?_
  refine lv_iconst (v := 2) hx hb dJ6_bitCount_0f7a4_16 (by decide) ?_
  refine lv_iushr hx hb dJ6_bitCount_0f7a4_17 rfl ?_
  refine lv_topi (fun f_5 ef_5 => ?_)
  refine lv_ldcw (v := 858993459) hx hb hown (hts (.constant RJ6 266 858993459) (by decide +kernel)) dJ6_bitCount_0f7a4_18 ?_
  refine lv_iand hx hb dJ6_bitCount_0f7a4_21 ?_
  refine lv_topi (fun f_6 ef_6 => ?_)
  refine lv_iadd hx hb dJ6_bitCount_0f7a4_22 ?_
  refine lv_topi (fun f_7 ef_7 => ?_)
  refine lv_istore_n (lv' := [(0, .int f_7)]) hx hb dJ6_bitCount_0f7a4_23 rfl hl (by decide) rfl (fun ls hl => ?_)
  refine lv_iload_n hx hb dJ6_bitCount_0f7a4_24 rfl (lv_at hl 0 rfl) ?_
  refine lv_iload_n hx hb dJ6_bitCount_0f7a4_25 rfl (lv_at hl 0 rfl) ?_
  refine lv_iconst (v := 4) hx hb dJ6_bitCount_0f7a4_26 (by decide) ?_
  refine lv_iushr hx hb dJ6_bitCount_0f7a4_27 rfl ?_
  refine lv_topi (fun f_8 ef_8 => ?_)
  refine lv_iadd hx hb dJ6_bitCount_0f7a4_28 ?_
  refine lv_topi (fun f_9 ef_9 => ?_)
  refine lv_ldcw (v := 252645135) hx hb hown (hts (.constant RJ6 267 252645135) (by decide +kernel)) dJ6_bitCount_0f7a4_29 ?_
  refine lv_iand hx hb dJ6_bitCount_0f7a4_32 ?_
  refine lv_topi (fun f_10 ef_10 => ?_)
  refine lv_istore_n (lv' := [(0, .int f_10)]) hx hb dJ6_bitCount_0f7a4_33 rfl hl (by decide) rfl (fun ls hl => ?_)
  refine lv_iload_n hx hb dJ6_bitCount_0f7a4_34 rfl (lv_at hl 0 rfl) ?_
  refine lv_iload_n hx hb dJ6_bitCount_0f7a4_35 rfl (lv_at hl 0 rfl) ?_
  refine lv_bipush (v := 8) hx hb dJ6_bitCount_0f7a4_36 (by decide) ?_
  refine lv_iushr hx hb dJ6_bitCount_0f7a4_38 rfl ?_
  refine lv_topi (fun f_11 ef_11 => ?_)
  refine lv_iadd hx hb dJ6_bitCount_0f7a4_39 ?_
  refine lv_topi (fun f_12 ef_12 => ?_)
  refine lv_istore_n (lv' := [(0, .int f_12)]) hx hb dJ6_bitCount_0f7a4_40 rfl hl (by decide) rfl (fun ls hl => ?_)
  refine lv_iload_n hx hb dJ6_bitCount_0f7a4_41 rfl (lv_at hl 0 rfl) ?_
  refine lv_iload_n hx hb dJ6_bitCount_0f7a4_42 rfl (lv_at hl 0 rfl) ?_
  refine lv_bipush (v := 16) hx hb dJ6_bitCount_0f7a4_43 (by decide) ?_
  refine lv_iushr hx hb dJ6_bitCount_0f7a4_45 rfl ?_
  refine lv_topi (fun f_13 ef_13 => ?_)
  refine lv_iadd hx hb dJ6_bitCount_0f7a4_46 ?_
  refine lv_topi (fun f_14 ef_14 => ?_)
  refine lv_istore_n (lv' := [(0, .int f_14)]) hx hb dJ6_bitCount_0f7a4_47 rfl hl (by decide) rfl (fun ls hl => ?_)
  refine lv_iload_n hx hb dJ6_bitCount_0f7a4_48 rfl (lv_at hl 0 rfl) ?_
  refine lv_bipush (v := 63) hx hb dJ6_bitCount_0f7a4_49 (by decide) ?_
  refine lv_iand hx hb dJ6_bitCount_0f7a4_51 ?_
  refine lv_topi (fun f_15 ef_15 => ?_)
  have nf_15 : 0 ≤ f_15.toInt := xandnn 6 (by decide) (by decide +kernel) ef_15
  have hP9 := hP.sub (ws' := []) [] rfl
  have hD9 := hD.sub (ws' := []) [] (by decide) rfl
  exact W.iret (v := f_15) hx hb hr (fun t ht hW => ⟨⟨_, _, rfl, rfl, ⟨f_15, nf_15, rfl, by rw [ht]; exact hP9, hD9⟩⟩, hS.F ht⟩) hS.2.2 dJ6_bitCount_0f7a4_52
set_option maxHeartbeats 4000000 in
set_option maxRecDepth 100000 in
theorem xcX2_fewestFor (l : Launch) (hst : l.stackTraces = false) (dC : Nat → ClassId) (dI : Nat → Nat → Nat) (T : Nat → ClassId) (a1 : Nat) (a2 : Nat) (sz : Nat) : Met l yX2_fewestFor wsX2_fewestFor ({ frames := 1, cells := 0, slots := 0, locals := 20 } : Room) (va_Pc [.ref a1, .int 0] (fun U => xB dC dI T [(a1, .inr (7, [.ref a2]))] sz U)) (va_Qi (fun (r u : Int32) => r = u) (fun (u : Int32) (t : State) => 0 = u ∧ xE dC dI [(a1, .inr (7, [.ref a2]))] (va_A [(a1, .inr (7, [.ref a2]))] sz) t) (va_A [(a1, .inr (7, [.ref a2]))] sz)) 0 0 (va_A [(a1, .inr (7, [.ref a2]))] sz) := by
  refine Met.ofW (cc := cX2_fewestFor) (maxL := 4) (ret := (some .int)) (by decide +kernel) rfl ?_
  intro p e s m args below meth c s₁ B hml hv
  obtain ⟨rfl, hsz, hP, hK, hD0, hG⟩ := hv
  have hx := B.exec
  have hb := B.bytes
  have hr := B.returns
  have hts := atoms_spec (ws := wsX2_fewestFor) B.pre
  have hown : s.vm.findClass RX2 = some m.cls := findClass_of_methodNamed B.named
  have hlocks := B.notSynchronized
  subst hsz
  have hD := hD0.self (sz := s.heap.size)
  generalize hAe : va_A [(a1, .inr (7, [.ref a2]))] s.heap.size = A at hD hG ⊢
  have hA : ∀ q : Nat, s.heap.size ≤ q → A q := fun q h => by rw [← hAe]; exact Or.inr h
  have hS : va_S A s.heap s.heap [] := va_S.rf
  have hl := lv_entry ([.ref a1, .int 0]) (n := 4) (Nat.le_of_ble_eq_true rfl)
  rw [lg_entry_eq]
  generalize (lg_sl ([.ref a1, .int 0]) ++ List.replicate (4 - (lg_sl ([.ref a1, .int 0])).length) Slot.unset).toArray = ls at hl ⊢
  have hl : lv_has ls 4 [(0, .ref a1), (1, .int 0)] := hl
  refine lv_iload_n hx hb dX2_fewestFor_0 rfl (lv_at hl 1 rfl) ?_
  have hPc := hP.sub (ws' := []) [] rfl
  have hDc := hD.sub (ws' := []) [] (by decide) rfl
  have hFc := va_free (wc := []) hD hS hA [] rfl
  refine va_calli (va_runS (As := [.int 0]) (rest := []) ⟨hx, hb, hml, hown, hts⟩ (xcJ6_bitCount_0f7a4 l hst dC dI T s.heap.size) (va_cwS 1 hts gX2_fewestFor_J6_bitCount_0f7a4 rfl rfl rfl (by decide +kernel) ⟨Nat.le_of_ble_eq_true rfl, Nat.le_of_ble_eq_true rfl⟩) ⟨xBlind, xCall hK hG hS hPc hDc hFc⟩ rfl rfl hl.1 rfl (lv_room (Nat.le_of_ble_eq_true rfl)) dX2_fewestFor_1 ⟨Nat.le_of_ble_eq_true rfl, Nat.le_of_ble_eq_true rfl⟩) hS (fun q _ h => hFc q h) hFc (fun r_9 u t H locs ht hvm hw hB hz1 hk1 hS => ?_)
  subst hw
  rcases hB with ⟨hr_9, hP1, hD1⟩
  rw [ht] at hP1
  subst hr_9
  obtain ⟨hP, hD⟩ := va_join (wr := [(a1, .inr (7, [.ref a2]))]) (w1 := []) hP hD [] [0] rfl rfl (by decide) (by decide) hk1 hFc hP1 hD1
  have hP : va_P (dC, dI) vwCl [(a1, .inr (7, [.ref a2]))] H := hP
  have hD : va_D A [(a1, .inr (7, [.ref a2]))] := hD
  clear hPc hDc hFc hP1 hD1 hk1 hz1 ht hvm
  refine lv_istore_n (lv' := [(2, .int 0), (0, .ref a1), (1, .int 0)]) hx hb dX2_fewestFor_4 rfl hl (by decide) rfl (fun ls hl => ?_)
  refine lv_iconst (v := 0) hx hb dX2_fewestFor_5 (by decide) ?_
  refine lv_istore_n (lv' := [(3, .int 0), (2, .int 0), (0, .ref a1), (1, .int 0)]) hx hb dX2_fewestFor_6 rfl hl (by decide) rfl (fun ls hl => ?_)
  refine xLoop (P := fun i_k_2 H locs ls => va_P (dC, dI) vwCl [(a1, .inr (7, [.ref a2]))] H ∧ va_D A [(a1, .inr (7, [.ref a2]))] ∧ va_S A s.heap H locs ∧ lv_has ls 4 [(3, .int (nI i_k_2)), (2, .int 0), (0, .ref a1), (1, .int 0)]) (N := 4096) (fun i_k_2 H locs ls hi_k_2 hI ih_k_2 => ?_) (0) _ _ _ (by omega) ⟨hP, hD, hS, lv_sub hl [0, 1, 2, 3] rfl⟩
  obtain ⟨hP, hD, hS, hl⟩ := hI
  refine lv_iload_n hx hb dX2_fewestFor_7 rfl (lv_at hl 0 rfl) ?_
  refine lv_sipush (v := 4096) hx hb dX2_fewestFor_8 (by decide) ?_
  have hz_4 : (nI i_k_2).toInt = ((i_k_2 : Nat) : Int) := nI_toInt (by omega)
  refine lv_icmp_ge (tgt := 50) hx hb dX2_fewestFor_11 (by decide) (fun c_3 => ?_) (fun c_3 => ?_)
  · have nc_3 : 4096 ≤ (nI i_k_2).toInt := (xi_le (by decide +kernel) rfl).mp c_3
    refine lv_iload_n hx hb dX2_fewestFor_50 rfl (lv_at hl 1 rfl) ?_
    have hP9 := hP.sub (ws' := [(a1, .inr (7, [.ref a2]))]) [0] rfl
    have hD9 := hD.sub (ws' := [(a1, .inr (7, [.ref a2]))]) [0] (by decide) rfl
    exact W.iret (v := 0) hx hb hr (fun t ht hW => ⟨⟨_, _, rfl, rfl, ⟨rfl, by rw [ht]; exact hP9, hD9⟩⟩, hS.F ht⟩) hS.2.2 dX2_fewestFor_51
  · have nc_3 : ¬ (4096 ≤ (nI i_k_2).toInt) := mt (xi_le (by decide +kernel) rfl).mpr c_3
    refine lv_iload_n hx hb dX2_fewestFor_14 rfl (lv_at hl 0 rfl) ?_
    refine lv_iload_n hx hb dX2_fewestFor_15 rfl (lv_at hl 3 rfl) ?_
    refine lv_iconst (v := (-1)) hx hb dX2_fewestFor_16 (by decide) ?_
    refine lv_ixor hx hb dX2_fewestFor_17 ?_
    refine lv_topi (fun f_5 ef_5 => ?_)
    obtain rfl : f_5 = (-1) := ef_5.trans (by decide)
    refine lv_iand hx hb dX2_fewestFor_18 ?_
    refine lv_topi (fun f_6 ef_6 => ?_)
    refine lv_if_ne (tgt := 44) hx hb dX2_fewestFor_19 (by decide) (fun c_7 => ?_) (fun c_7 => ?_)
    · have nc_7 : ¬ (f_6.toInt = 0) := mt (xi_eq rfl (by decide +kernel)).mpr c_7
      refine lv_iinc (v := (nI (i_k_2 + 1))) (lv' := [(3, .int (nI (i_k_2 + 1))), (2, .int 0), (0, .ref a1), (1, .int 0)]) hx hb dX2_fewestFor_44 hl (k := 0) rfl (nI_1 _) (by decide) rfl (fun ls hl => ?_)
      refine lv_goto (tgt := 7) hx hb dX2_fewestFor_47 (by decide) ?_
      exact ih_k_2 _ _ _ (by omega) ⟨hP, hD, hS, lv_sub hl [0, 1, 2, 3] rfl⟩
    · have nc_7 : f_6.toInt = 0 := (xi_eq rfl (by decide +kernel)).mp c_7
      refine lv_iload_n hx hb dX2_fewestFor_22 rfl (lv_at hl 0 rfl) ?_
      have hPc := hP.sub (ws' := []) [] rfl
      have hDc := hD.sub (ws' := []) [] (by decide) rfl
      have hFc := va_free (wc := []) hD hS hA [] rfl
      refine va_calli (va_runS (As := [.int (nI i_k_2)]) (rest := []) ⟨hx, hb, hml, hown, hts⟩ (xcJ6_bitCount_0f7a4_v2 l hst dC dI T H.size (nI i_k_2)) (va_cwS 1 hts gX2_fewestFor_J6_bitCount_0f7a4 rfl rfl rfl (by decide +kernel) ⟨Nat.le_of_ble_eq_true rfl, Nat.le_of_ble_eq_true rfl⟩) ⟨xBlind, xCall hK hG hS hPc hDc hFc⟩ rfl rfl hl.1 rfl (lv_room (Nat.le_of_ble_eq_true rfl)) dX2_fewestFor_23 ⟨Nat.le_of_ble_eq_true rfl, Nat.le_of_ble_eq_true rfl⟩) hS (fun q _ h => hFc q h) hFc (fun r_9 u t H locs ht hvm hw hB hz1 hk1 hS => ?_)
      subst hw
      rcases hB with ⟨z_8, c_9, hr_9, hP1, hD1⟩
      rw [ht] at hP1
      subst hr_9
      obtain ⟨hP, hD⟩ := va_join (wr := [(a1, .inr (7, [.ref a2]))]) (w1 := []) hP hD [] [0] rfl rfl (by decide) (by decide) hk1 hFc hP1 hD1
      have hP : va_P (dC, dI) vwCl [(a1, .inr (7, [.ref a2]))] H := hP
      have hD : va_D A [(a1, .inr (7, [.ref a2]))] := hD
      clear hPc hDc hFc hP1 hD1 hk1 hz1 ht hvm
      refine lv_iload_n hx hb dX2_fewestFor_26 rfl (lv_at hl 1 rfl) ?_
      refine lv_icmp_ge (tgt := 44) hx hb dX2_fewestFor_27 (by decide) (fun _ => ?_) (fun c_10 => absurd (show ¬ (0 ≤ z_8.toInt) from mt (xi_le (by decide +kernel) rfl).mpr c_10) (by omega))
      refine lv_iinc (v := (nI (i_k_2 + 1))) (lv' := [(3, .int (nI (i_k_2 + 1))), (2, .int 0), (0, .ref a1), (1, .int 0)]) hx hb dX2_fewestFor_44 hl (k := 0) rfl (nI_1 _) (by decide) rfl (fun ls hl => ?_)
      refine lv_goto (tgt := 7) hx hb dX2_fewestFor_47 (by decide) ?_
      exact ih_k_2 _ _ _ (by omega) ⟨hP, hD, hS, lv_sub hl [0, 1, 2, 3] rfl⟩
set_option maxHeartbeats 4000000 in
set_option maxRecDepth 100000 in
theorem xcX11_countDiscs (l : Launch) (hst : l.stackTraces = false) (dC : Nat → ClassId) (dI : Nat → Nat → Nat) (T : Nat → ClassId) (a1 : Nat) (a2 : Nat) (a3 : Nat) (a4 : Nat) (a5 : Nat) (a6 : Nat) (a7 : Nat) (a8 : Nat) (a9 : Nat) (a10 : Nat) (a11 : Nat) (a12 : Nat) (a13 : Nat) (a14 : Nat) (a15 : Nat) (a16 : Nat) (a30 : Nat) (sz : Nat) (p1 : Int32) : vx_Met l yX11_countDiscs wsX11_countDiscs ({ frames := 7, cells := 1, slots := 6, locals := 104 } : Room) (va_Pc [.ref a1, .int p1] (fun U => xB dC dI T [(a1, .inr (16, [.ref a2, .ref a3, .ref a4, .ref a5, .ref a6, .ref a7, .ref a8, .ref a9, .ref a10, .ref a11])), (a2, .inr (10, [.ref a12, .ref a13, .ref a14, .ref a15, .ref a16, .int 0, .int 0])), (a9, .inr (7, [.ref a30])), (a30, .inl (T 0, 12, .inl (fun _ => 0)))] sz U)) (va_Qi (fun (r u : Int32) => r = u) (fun (u : Int32) (t : State) => ((¬ (p1.toInt < 0)) ∧ (p1.toInt ≤ ((99999) : Int32).toInt)) ∧ 0 = u ∧ xE dC dI [] (va_A [(a1, .inr (16, [.ref a2, .ref a3, .ref a4, .ref a5, .ref a6, .ref a7, .ref a8, .ref a9, .ref a10, .ref a11])), (a2, .inr (10, [.ref a12, .ref a13, .ref a14, .ref a15, .ref a16, .int 0, .int 0])), (a9, .inr (7, [.ref a30])), (a30, .inl (T 0, 12, .inl (fun _ => 0)))] sz) t) (va_A [(a1, .inr (16, [.ref a2, .ref a3, .ref a4, .ref a5, .ref a6, .ref a7, .ref a8, .ref a9, .ref a10, .ref a11])), (a2, .inr (10, [.ref a12, .ref a13, .ref a14, .ref a15, .ref a16, .int 0, .int 0])), (a9, .inr (7, [.ref a30])), (a30, .inl (T 0, 12, .inl (fun _ => 0)))] sz)) (vx_X (fun _ : Unit => True) (fun (E : String) (_ : Unit) (t : State) => ((p1.toInt < 0) ∨ ((¬ (p1.toInt < 0)) ∧ (¬ (p1.toInt ≤ ((99999) : Int32).toInt)))) ∧ E = "java/lang/IllegalArgumentException" ∧ xE dC dI [] (va_A [(a1, .inr (16, [.ref a2, .ref a3, .ref a4, .ref a5, .ref a6, .ref a7, .ref a8, .ref a9, .ref a10, .ref a11])), (a2, .inr (10, [.ref a12, .ref a13, .ref a14, .ref a15, .ref a16, .int 0, .int 0])), (a9, .inr (7, [.ref a30])), (a30, .inl (T 0, 12, .inl (fun _ => 0)))] sz) t) (va_A [(a1, .inr (16, [.ref a2, .ref a3, .ref a4, .ref a5, .ref a6, .ref a7, .ref a8, .ref a9, .ref a10, .ref a11])), (a2, .inr (10, [.ref a12, .ref a13, .ref a14, .ref a15, .ref a16, .int 0, .int 0])), (a9, .inr (7, [.ref a30])), (a30, .inl (T 0, 12, .inl (fun _ => 0)))] sz)) 1 6 (va_A [(a1, .inr (16, [.ref a2, .ref a3, .ref a4, .ref a5, .ref a6, .ref a7, .ref a8, .ref a9, .ref a10, .ref a11])), (a2, .inr (10, [.ref a12, .ref a13, .ref a14, .ref a15, .ref a16, .int 0, .int 0])), (a9, .inr (7, [.ref a30])), (a30, .inl (T 0, 12, .inl (fun _ => 0)))] sz) := by
  refine vx_ofW (cc := cX11_countDiscs) (maxL := 3) (ret := (some .int)) (by decide +kernel) rfl ?_
  intro p e s m args below meth c s₁ B hml hex hv
  obtain ⟨rfl, hsz, hP, hK, hD0, hG⟩ := hv
  have hx := B.exec
  have hb := B.bytes
  have hr := B.returns
  have hts := atoms_spec (ws := wsX11_countDiscs) B.pre
  have hown : s.vm.findClass RX11 = some m.cls := findClass_of_methodNamed B.named
  have hlocks := B.notSynchronized
  have hin_X11 : ∀ w ∈ wsX110, w ∈ wsX11_countDiscs := by decide +kernel
  have hin_X2 : ∀ w ∈ wsX20, w ∈ wsX11_countDiscs := by decide +kernel
  have hin_X5 : ∀ w ∈ wsX50, w ∈ wsX11_countDiscs := by decide +kernel
  subst hsz
  have hD := hD0.self (sz := s.heap.size)
  generalize hAe : va_A [(a1, .inr (16, [.ref a2, .ref a3, .ref a4, .ref a5, .ref a6, .ref a7, .ref a8, .ref a9, .ref a10, .ref a11])), (a2, .inr (10, [.ref a12, .ref a13, .ref a14, .ref a15, .ref a16, .int 0, .int 0])), (a9, .inr (7, [.ref a30])), (a30, .inl (T 0, 12, .inl (fun _ => 0)))] s.heap.size = A at hD hG ⊢
  have hA : ∀ q : Nat, s.heap.size ≤ q → A q := fun q h => by rw [← hAe]; exact Or.inr h
  have hS : va_S A s.heap s.heap [] := va_S.rf
  have hl := lv_entry ([.ref a1, .int p1]) (n := 3) (Nat.le_of_ble_eq_true rfl)
  rw [lg_entry_eq]
  generalize (lg_sl ([.ref a1, .int p1]) ++ List.replicate (3 - (lg_sl ([.ref a1, .int p1])).length) Slot.unset).toArray = ls at hl ⊢
  have hl : lv_has ls 3 [(0, .ref a1), (1, .int p1)] := hl
  refine lv_iload_n hx hb dX11_countDiscs_0 rfl (lv_at hl 1 rfl) ?_
  refine lv_iconst (v := 0) hx hb dX11_countDiscs_1 (by decide) ?_
  refine lv_ldc (v := 99999) hx hb hown (hts (.constant RX11 252 99999) (by decide +kernel)) dX11_countDiscs_2 ?_
  have hPc := hP.sub (ws' := []) [] rfl
  have hDc := hD.sub (ws' := []) [] (by decide) rfl
  have hFc := va_free (wc := []) hD hS hA [] rfl
  refine vx_callv (vx_runS (As := [.int p1, .int 0, .int 99999]) (rest := []) ⟨hx, hb, hml, hown, hts⟩ (xcX11_needRange_v3 l hst dC dI T s.heap.size p1 99999) (cwS 3 hts gX11_countDiscs_X11_needRange rfl rfl rfl (by decide +kernel) ⟨Nat.le_of_ble_eq_true rfl, Nat.le_of_ble_eq_true rfl⟩) ⟨xBlind, xCall hK hG hS hPc hDc hFc⟩ rfl rfl hl.1 rfl (lv_room (Nat.le_of_ble_eq_true rfl)) dX11_countDiscs_4 ⟨Nat.le_of_ble_eq_true rfl, Nat.le_of_ble_eq_true rfl⟩) hS (fun q _ h => hFc q h) hFc (fun q _ h => hFc q h) (fun E ce q9 u t H locs ht hvm hw hB hz1 hk1 hS hce hcv hcl => ?_) (fun u t H locs ht hvm hw hB hz1 hk1 hS => ?_)
  · rcases hB with ⟨c_1, hE, hP1, hD1⟩
    have hz_2 : ((99999) : Int32).toInt = 99999 := by decide +kernel
    subst hE
    rw [ht] at hP1
    obtain ⟨hP, hD⟩ := va_join (wr := [(a1, .inr (16, [.ref a2, .ref a3, .ref a4, .ref a5, .ref a6, .ref a7, .ref a8, .ref a9, .ref a10, .ref a11])), (a2, .inr (10, [.ref a12, .ref a13, .ref a14, .ref a15, .ref a16, .int 0, .int 0])), (a9, .inr (7, [.ref a30])), (a30, .inl (T 0, 12, .inl (fun _ => 0)))]) (w1 := []) hP hD [] [0, 1, 2, 3] rfl rfl (by decide) (by decide) hk1 hFc hP1 hD1
    have hP : va_P (dC, dI) vwCl [(a1, .inr (16, [.ref a2, .ref a3, .ref a4, .ref a5, .ref a6, .ref a7, .ref a8, .ref a9, .ref a10, .ref a11])), (a2, .inr (10, [.ref a12, .ref a13, .ref a14, .ref a15, .ref a16, .int 0, .int 0])), (a9, .inr (7, [.ref a30])), (a30, .inl (T 0, 12, .inl (fun _ => 0)))] H := hP
    have hD : va_D A [(a1, .inr (16, [.ref a2, .ref a3, .ref a4, .ref a5, .ref a6, .ref a7, .ref a8, .ref a9, .ref a10, .ref a11])), (a2, .inr (10, [.ref a12, .ref a13, .ref a14, .ref a15, .ref a16, .int 0, .int 0])), (a9, .inr (7, [.ref a30])), (a30, .inl (T 0, 12, .inl (fun _ => 0)))] := hD
    clear hPc hDc hFc hP1 hD1 hk1 hz1 ht hvm
    have hP9 := hP.sub (ws' := []) [] rfl
    have hD9 := hD.sub (ws' := []) [] (by decide) rfl
    exact vx_out (fun x hx => absurd (hex x hx) id) hlocks hce hcv hcl (fun t ht _ => ⟨(), trivial, ⟨c_1, rfl, by rw [ht]; exact hP9, hD9⟩, hS.F ht⟩) hS.2.2 (Nat.le_of_ble_eq_true rfl) (Nat.le_of_ble_eq_true rfl)
  · rcases hB with ⟨c_3, hP1, hD1⟩
    have hz_4 : ((99999) : Int32).toInt = 99999 := by decide +kernel
    rw [ht] at hP1
    obtain ⟨hP, hD⟩ := va_join (wr := [(a1, .inr (16, [.ref a2, .ref a3, .ref a4, .ref a5, .ref a6, .ref a7, .ref a8, .ref a9, .ref a10, .ref a11])), (a2, .inr (10, [.ref a12, .ref a13, .ref a14, .ref a15, .ref a16, .int 0, .int 0])), (a9, .inr (7, [.ref a30])), (a30, .inl (T 0, 12, .inl (fun _ => 0)))]) (w1 := []) hP hD [] [0, 1, 2, 3] rfl rfl (by decide) (by decide) hk1 hFc hP1 hD1
    have hP : va_P (dC, dI) vwCl [(a1, .inr (16, [.ref a2, .ref a3, .ref a4, .ref a5, .ref a6, .ref a7, .ref a8, .ref a9, .ref a10, .ref a11])), (a2, .inr (10, [.ref a12, .ref a13, .ref a14, .ref a15, .ref a16, .int 0, .int 0])), (a9, .inr (7, [.ref a30])), (a30, .inl (T 0, 12, .inl (fun _ => 0)))] H := hP
    have hD : va_D A [(a1, .inr (16, [.ref a2, .ref a3, .ref a4, .ref a5, .ref a6, .ref a7, .ref a8, .ref a9, .ref a10, .ref a11])), (a2, .inr (10, [.ref a12, .ref a13, .ref a14, .ref a15, .ref a16, .int 0, .int 0])), (a9, .inr (7, [.ref a30])), (a30, .inl (T 0, 12, .inl (fun _ => 0)))] := hD
    clear hPc hDc hFc hP1 hD1 hk1 hz1 ht hvm
    refine lv_iconst (v := 0) hx hb dX11_countDiscs_7 (by decide) ?_
    refine lv_istore_n (lv' := [(2, .int 0), (0, .ref a1), (1, .int p1)]) hx hb dX11_countDiscs_8 rfl hl (by decide) rfl (fun ls hl => ?_)
    refine xLoop (P := fun i_k_5 H locs ls => va_P (dC, dI) vwCl [(a1, .inr (16, [.ref a2, .ref a3, .ref a4, .ref a5, .ref a6, .ref a7, .ref a8, .ref a9, .ref a10, .ref a11])), (a2, .inr (10, [.ref a12, .ref a13, .ref a14, .ref a15, .ref a16, .int 0, .int 0])), (a9, .inr (7, [.ref a30])), (a30, .inl (T 0, 12, .inl (fun _ => 0)))] H ∧ va_D A [(a1, .inr (16, [.ref a2, .ref a3, .ref a4, .ref a5, .ref a6, .ref a7, .ref a8, .ref a9, .ref a10, .ref a11])), (a2, .inr (10, [.ref a12, .ref a13, .ref a14, .ref a15, .ref a16, .int 0, .int 0])), (a9, .inr (7, [.ref a30])), (a30, .inl (T 0, 12, .inl (fun _ => 0)))] ∧ va_S A s.heap H locs ∧ lv_has ls 3 [(2, .int (nI i_k_5)), (0, .ref a1), (1, .int p1)]) (N := 12) (fun i_k_5 H locs ls hi_k_5 hI ih_k_5 => ?_) (0) _ _ _ (by omega) ⟨hP, hD, hS, lv_sub hl [0, 1, 2] rfl⟩
    obtain ⟨hP, hD, hS, hl⟩ := hI
    refine lv_iload_n hx hb dX11_countDiscs_9 rfl (lv_at hl 0 rfl) ?_
    refine lv_bipush (v := 12) hx hb dX11_countDiscs_10 (by decide) ?_
    have hz_7 : (nI i_k_5).toInt = ((i_k_5 : Nat) : Int) := nI_toInt (by omega)
    refine lv_icmp_ge (tgt := 51) hx hb dX11_countDiscs_12 (by decide) (fun c_6 => ?_) (fun c_6 => ?_)
    · have nc_6 : 12 ≤ (nI i_k_5).toInt := (xi_le (by decide +kernel) rfl).mp c_6
      refine lv_aload_n hx hb dX11_countDiscs_51 rfl (lv_at hl 1 rfl) ?_
      refine va_get (D := (dC, dI)) (ci := 16) (v := .ref a9) (C := RX11) (T := TX11) (N := 10) hx hb hts hin_X11 hown hK hP 0 rfl rfl 7 (by decide) (hts (.fieldLink RX11 61 "Nearestward" "cover" "LNearestward$Cover;") (by decide +kernel)) (fun _ h9 => h9) rfl dX11_countDiscs_52 ?_
      refine lv_aload_n hx hb dX11_countDiscs_55 rfl (lv_at hl 1 rfl) ?_
      refine va_get (D := (dC, dI)) (ci := 16) (v := .ref a2) (C := RX11) (T := TX11) (N := 10) hx hb hts hin_X11 hown hK hP 0 rfl rfl 0 (by decide) (hts (.fieldLink RX11 12 "Nearestward" "ground" "LNearestward$Ground;") (by decide +kernel)) (fun _ h9 => h9) rfl dX11_countDiscs_56 ?_
      refine va_get (D := (dC, dI)) (ci := 10) (v := .int 0) (C := RX5) (T := TX5) (N := 7) hx hb hts hin_X5 hown hK hP 1 rfl rfl 5 (by decide) (hts (.fieldLink RX11 297 "Nearestward$Ground" "there" "I") (by decide +kernel)) (fun _ h9 => h9) rfl dX11_countDiscs_59 ?_
      have hPc := hP.sub (ws' := [(a9, .inr (7, [.ref a30]))]) [2] rfl
      have hDc := hD.sub (ws' := [(a9, .inr (7, [.ref a30]))]) [2] (by decide) rfl
      have hFc := va_free (wc := [(a9, .inr (7, [.ref a30]))]) hD hS hA [2] rfl
      refine va_calli (va_runV (As := [.int 0]) (rest := []) ⟨hx, hb, hml, hown, hts⟩ (xcX2_fewestFor l hst dC dI T a9 a30 H.size) (cwV 1 hts gX11_countDiscs_X2_fewestFor rfl rfl rfl (by decide +kernel) ⟨Nat.le_of_ble_eq_true rfl, Nat.le_of_ble_eq_true rfl⟩) ⟨xBlind, va_recv hK hPc (ci := 7) (q0 := 0) rfl rfl, xCall hK hG hS hPc hDc hFc⟩ rfl rfl hl.1 rfl (lv_room (Nat.le_of_ble_eq_true rfl)) dX11_countDiscs_62 ⟨Nat.le_of_ble_eq_true rfl, Nat.le_of_ble_eq_true rfl⟩) hS (fun q _ h => hFc q h) hFc (fun r_9 u t H locs ht hvm hw hB hz1 hk1 hS => ?_)
      subst hw
      rcases hB with ⟨hr_9, hP1, hD1⟩
      rw [ht] at hP1
      subst hr_9
      obtain ⟨hP, hD⟩ := va_join (wr := [(a1, .inr (16, [.ref a2, .ref a3, .ref a4, .ref a5, .ref a6, .ref a7, .ref a8, .ref a9, .ref a10, .ref a11])), (a2, .inr (10, [.ref a12, .ref a13, .ref a14, .ref a15, .ref a16, .int 0, .int 0])), (a30, .inl (T 0, 12, .inl (fun _ => 0)))]) (w1 := [(a9, .inr (7, [.ref a30]))]) hP hD [2] [0, 1, 3] rfl rfl (by decide) (by decide) hk1 hFc hP1 hD1
      have hP := hP.sub (ws' := [(a1, .inr (16, [.ref a2, .ref a3, .ref a4, .ref a5, .ref a6, .ref a7, .ref a8, .ref a9, .ref a10, .ref a11])), (a2, .inr (10, [.ref a12, .ref a13, .ref a14, .ref a15, .ref a16, .int 0, .int 0])), (a9, .inr (7, [.ref a30])), (a30, .inl (T 0, 12, .inl (fun _ => 0)))]) [0, 1, 3, 2] rfl
      have hD := hD.sub (ws' := [(a1, .inr (16, [.ref a2, .ref a3, .ref a4, .ref a5, .ref a6, .ref a7, .ref a8, .ref a9, .ref a10, .ref a11])), (a2, .inr (10, [.ref a12, .ref a13, .ref a14, .ref a15, .ref a16, .int 0, .int 0])), (a9, .inr (7, [.ref a30])), (a30, .inl (T 0, 12, .inl (fun _ => 0)))]) [0, 1, 3, 2] (by decide) rfl
      clear hPc hDc hFc hP1 hD1 hk1 hz1 ht hvm
      refine vx_ret ?_
      have hP9 := hP.sub (ws' := []) [] rfl
      have hD9 := hD.sub (ws' := []) [] (by decide) rfl
      exact W.iret (v := 0) hx hb hr (fun t ht hW => ⟨⟨_, _, rfl, rfl, ⟨c_3, rfl, by rw [ht]; exact hP9, hD9⟩⟩, hS.F ht⟩) hS.2.2 dX11_countDiscs_65
    · have nc_6 : ¬ (12 ≤ (nI i_k_5).toInt) := mt (xi_le (by decide +kernel) rfl).mpr c_6
      refine lv_aload_n hx hb dX11_countDiscs_15 rfl (lv_at hl 1 rfl) ?_
      refine va_get (D := (dC, dI)) (ci := 16) (v := .ref a9) (C := RX11) (T := TX11) (N := 10) hx hb hts hin_X11 hown hK hP 0 rfl rfl 7 (by decide) (hts (.fieldLink RX11 61 "Nearestward" "cover" "LNearestward$Cover;") (by decide +kernel)) (fun _ h9 => h9) rfl dX11_countDiscs_16 ?_
      refine va_get (D := (dC, dI)) (ci := 7) (v := .ref a30) (C := RX2) (T := TX2) (N := 1) hx hb hts hin_X2 hown hK hP 2 rfl rfl 0 (by decide) (hts (.fieldLink RX11 294 "Nearestward$Cover" "reach" "[I") (by decide +kernel)) (fun _ h9 => h9) rfl dX11_countDiscs_19 ?_
      refine lv_iload_n hx hb dX11_countDiscs_22 rfl (lv_at hl 0 rfl) ?_
      refine lv_aload_n hx hb dX11_countDiscs_23 rfl (lv_at hl 1 rfl) ?_
      refine va_get (D := (dC, dI)) (ci := 16) (v := .ref a2) (C := RX11) (T := TX11) (N := 10) hx hb hts hin_X11 hown hK hP 0 rfl rfl 0 (by decide) (hts (.fieldLink RX11 12 "Nearestward" "ground" "LNearestward$Ground;") (by decide +kernel)) (fun _ h9 => h9) rfl dX11_countDiscs_24 ?_
      refine lv_iload_n hx hb dX11_countDiscs_27 rfl (lv_at hl 0 rfl) ?_
      have hPc := hP.sub (ws' := [(a2, .inr (10, [.ref a12, .ref a13, .ref a14, .ref a15, .ref a16, .int 0, .int 0]))]) [1] rfl
      have hDc := hD.sub (ws' := [(a2, .inr (10, [.ref a12, .ref a13, .ref a14, .ref a15, .ref a16, .int 0, .int 0]))]) [1] (by decide) rfl
      have hFc := va_free (wc := [(a2, .inr (10, [.ref a12, .ref a13, .ref a14, .ref a15, .ref a16, .int 0, .int 0]))]) hD hS hA [1] rfl
      refine va_calli (va_runV (As := [.int (nI i_k_5)]) (rest := [.int (nI i_k_5), .ref a30]) ⟨hx, hb, hml, hown, hts⟩ (xcX5_has l hst dC dI T a2 a12 a13 a14 a15 a16 H.size (nI i_k_5)) (cwV 1 hts gX11_countDiscs_X5_has rfl rfl rfl (by decide +kernel) ⟨Nat.le_of_ble_eq_true rfl, Nat.le_of_ble_eq_true rfl⟩) ⟨xBlind, va_recv hK hPc (ci := 10) (q0 := 0) rfl rfl, xCall hK hG hS hPc hDc hFc⟩ rfl rfl hl.1 rfl (lv_room (Nat.le_of_ble_eq_true rfl)) dX11_countDiscs_28 ⟨Nat.le_of_ble_eq_true rfl, Nat.le_of_ble_eq_true rfl⟩) hS (fun q _ h => hFc q h) hFc (fun r_9 u t H locs ht hvm hw hB hz1 hk1 hS => ?_)
      subst hw
      rcases hB with ⟨hr_9, hP1, hD1⟩
      rw [ht] at hP1
      subst hr_9
      obtain ⟨hP, hD⟩ := va_join (wr := [(a1, .inr (16, [.ref a2, .ref a3, .ref a4, .ref a5, .ref a6, .ref a7, .ref a8, .ref a9, .ref a10, .ref a11])), (a9, .inr (7, [.ref a30])), (a30, .inl (T 0, 12, .inl (fun _ => 0)))]) (w1 := [(a2, .inr (10, [.ref a12, .ref a13, .ref a14, .ref a15, .ref a16, .int 0, .int 0]))]) hP hD [1] [0, 2, 3] rfl rfl (by decide) (by decide) hk1 hFc hP1 hD1
      have hP := hP.sub (ws' := [(a1, .inr (16, [.ref a2, .ref a3, .ref a4, .ref a5, .ref a6, .ref a7, .ref a8, .ref a9, .ref a10, .ref a11])), (a2, .inr (10, [.ref a12, .ref a13, .ref a14, .ref a15, .ref a16, .int 0, .int 0])), (a9, .inr (7, [.ref a30])), (a30, .inl (T 0, 12, .inl (fun _ => 0)))]) [0, 3, 1, 2] rfl
      have hD := hD.sub (ws' := [(a1, .inr (16, [.ref a2, .ref a3, .ref a4, .ref a5, .ref a6, .ref a7, .ref a8, .ref a9, .ref a10, .ref a11])), (a2, .inr (10, [.ref a12, .ref a13, .ref a14, .ref a15, .ref a16, .int 0, .int 0])), (a9, .inr (7, [.ref a30])), (a30, .inl (T 0, 12, .inl (fun _ => 0)))]) [0, 3, 1, 2] (by decide) rfl
      clear hPc hDc hFc hP1 hD1 hk1 hz1 ht hvm
      refine lv_if_eq (tgt := 43) hx hb dX11_countDiscs_31 (by decide) (fun c_10 => ?_) (fun c_10 => absurd (by decide) c_10)
      refine lv_iconst (v := 0) hx hb dX11_countDiscs_43 (by decide) ?_
      refine va_iast hx hb hK hP hD hS 3 0 rfl rfl (vp_in_nI (by omega) (by decide)) dX11_countDiscs_44 (fun H locs hP hD hS => ?_)
      have hP : va_P (dC, dI) vwCl [(a1, .inr (16, [.ref a2, .ref a3, .ref a4, .ref a5, .ref a6, .ref a7, .ref a8, .ref a9, .ref a10, .ref a11])), (a2, .inr (10, [.ref a12, .ref a13, .ref a14, .ref a15, .ref a16, .int 0, .int 0])), (a9, .inr (7, [.ref a30])), (a30, .inl (T 0, 12, .inl (fun _ => 0)))] H := by have h9 : va_P (dC, dI) vwCl [(a1, .inr (16, [.ref a2, .ref a3, .ref a4, .ref a5, .ref a6, .ref a7, .ref a8, .ref a9, .ref a10, .ref a11])), (a2, .inr (10, [.ref a12, .ref a13, .ref a14, .ref a15, .ref a16, .int 0, .int 0])), (a9, .inr (7, [.ref a30])), (a30, .inl (T 0, 12, .inl (upd (fun _ => 0) ((nI i_k_5) : Int32).toNatClampNeg 0)))] H := hP; rw [xz] at h9; exact h9
      have hD : va_D A [(a1, .inr (16, [.ref a2, .ref a3, .ref a4, .ref a5, .ref a6, .ref a7, .ref a8, .ref a9, .ref a10, .ref a11])), (a2, .inr (10, [.ref a12, .ref a13, .ref a14, .ref a15, .ref a16, .int 0, .int 0])), (a9, .inr (7, [.ref a30])), (a30, .inl (T 0, 12, .inl (fun _ => 0)))] := by have h9 : va_D A [(a1, .inr (16, [.ref a2, .ref a3, .ref a4, .ref a5, .ref a6, .ref a7, .ref a8, .ref a9, .ref a10, .ref a11])), (a2, .inr (10, [.ref a12, .ref a13, .ref a14, .ref a15, .ref a16, .int 0, .int 0])), (a9, .inr (7, [.ref a30])), (a30, .inl (T 0, 12, .inl (upd (fun _ => 0) ((nI i_k_5) : Int32).toNatClampNeg 0)))] := hD; rw [xz] at h9; exact h9
      refine lv_iinc (v := (nI (i_k_5 + 1))) (lv' := [(2, .int (nI (i_k_5 + 1))), (0, .ref a1), (1, .int p1)]) hx hb dX11_countDiscs_45 hl (k := 0) rfl (nI_1 _) (by decide) rfl (fun ls hl => ?_)
      refine lv_goto (tgt := 9) hx hb dX11_countDiscs_48 (by decide) ?_
      exact ih_k_5 _ _ _ (by omega) ⟨hP, hD, hS, lv_sub hl [0, 1, 2] rfl⟩
set_option maxHeartbeats 4000000 in
set_option maxRecDepth 100000 in
theorem xcL_countDiscs (l : Launch) (hst : l.stackTraces = false) (dC : Nat → ClassId) (dI : Nat → Nat → Nat) (T : Nat → ClassId) (a1 : Nat) (a2 : Nat) (a3 : Nat) (a4 : Nat) (a5 : Nat) (a6 : Nat) (a7 : Nat) (a8 : Nat) (a9 : Nat) (a10 : Nat) (a11 : Nat) (a12 : Nat) (a13 : Nat) (a14 : Nat) (a15 : Nat) (a16 : Nat) (a17 : Nat) (a31 : Nat) (sz : Nat) (p1 : Int32) : Met l yL_countDiscs wsL_countDiscs ({ frames := 8, cells := 1, slots := 6, locals := 126 } : Room) (va_Pc [.ref a1, .int p1, .ref a2] (fun U => xB dC dI T [(a1, .inr (16, [.ref a3, .ref a4, .ref a5, .ref a6, .ref a7, .ref a8, .ref a9, .ref a10, .ref a11, .ref a12])), (a3, .inr (10, [.ref a13, .ref a14, .ref a15, .ref a16, .ref a17, .int 0, .int 0])), (a10, .inr (7, [.ref a31])), (a31, .inl (T 0, 12, .inl (fun _ => 0))), (a2, .inl (T 5, 1, .inr (.inl (fun _ => 0))))] sz U)) (va_Qi (fun (r u : Int32) => r = u) (fun (u : Int32) (t : State) => (((p1.toInt < 0) ∨ ((¬ (p1.toInt < 0)) ∧ (¬ (p1.toInt ≤ ((99999) : Int32).toInt)))) ∧ 1 = u ∧ xE dC dI [(a2, .inl (T 5, 1, .inr (.inl (fun _ => 0))))] (va_A [(a1, .inr (16, [.ref a3, .ref a4, .ref a5, .ref a6, .ref a7, .ref a8, .ref a9, .ref a10, .ref a11, .ref a12])), (a3, .inr (10, [.ref a13, .ref a14, .ref a15, .ref a16, .ref a17, .int 0, .int 0])), (a10, .inr (7, [.ref a31])), (a31, .inl (T 0, 12, .inl (fun _ => 0))), (a2, .inl (T 5, 1, .inr (.inl (fun _ => 0))))] sz) t) ∨ (((¬ (p1.toInt < 0)) ∧ (p1.toInt ≤ ((99999) : Int32).toInt)) ∧ 0 = u ∧ xE dC dI [(a2, .inl (T 5, 1, .inr (.inl (vp_updL (fun _ => 0) (0 : Int32).toNatClampNeg 0))))] (va_A [(a1, .inr (16, [.ref a3, .ref a4, .ref a5, .ref a6, .ref a7, .ref a8, .ref a9, .ref a10, .ref a11, .ref a12])), (a3, .inr (10, [.ref a13, .ref a14, .ref a15, .ref a16, .ref a17, .int 0, .int 0])), (a10, .inr (7, [.ref a31])), (a31, .inl (T 0, 12, .inl (fun _ => 0))), (a2, .inl (T 5, 1, .inr (.inl (fun _ => 0))))] sz) t)) (va_A [(a1, .inr (16, [.ref a3, .ref a4, .ref a5, .ref a6, .ref a7, .ref a8, .ref a9, .ref a10, .ref a11, .ref a12])), (a3, .inr (10, [.ref a13, .ref a14, .ref a15, .ref a16, .ref a17, .int 0, .int 0])), (a10, .inr (7, [.ref a31])), (a31, .inl (T 0, 12, .inl (fun _ => 0))), (a2, .inl (T 5, 1, .inr (.inl (fun _ => 0))))] sz)) 1 6 (va_A [(a1, .inr (16, [.ref a3, .ref a4, .ref a5, .ref a6, .ref a7, .ref a8, .ref a9, .ref a10, .ref a11, .ref a12])), (a3, .inr (10, [.ref a13, .ref a14, .ref a15, .ref a16, .ref a17, .int 0, .int 0])), (a10, .inr (7, [.ref a31])), (a31, .inl (T 0, 12, .inl (fun _ => 0))), (a2, .inl (T 5, 1, .inr (.inl (fun _ => 0))))] sz) := by
  refine va_MetW (cc := cL_countDiscs) (maxL := 4) (ret := (some .int)) (hh := [(0, 9, 12, 13)]) (by decide +kernel) rfl ?_
  intro p e s m args below meth c s₁ B hml hv
  obtain ⟨rfl, hsz, hP, hK, hD0, hG⟩ := hv
  have hx := B.exec
  have hb := B.bytes
  have hr := B.returns
  have hts := atoms_spec (ws := wsL_countDiscs) B.pre
  have hown : s.vm.findClass RL = some m.cls := findClass_of_methodNamed B.named
  have hlocks := B.notSynchronized
  have htab := vx_table (x := yL_countDiscs) B (hts (.codeWith yL_countDiscs cL_countDiscs 4 (some .int) [(0, 9, 12, 13)]) (by decide +kernel))
  subst hsz
  have hD := hD0.self (sz := s.heap.size)
  generalize hAe : va_A [(a1, .inr (16, [.ref a3, .ref a4, .ref a5, .ref a6, .ref a7, .ref a8, .ref a9, .ref a10, .ref a11, .ref a12])), (a3, .inr (10, [.ref a13, .ref a14, .ref a15, .ref a16, .ref a17, .int 0, .int 0])), (a10, .inr (7, [.ref a31])), (a31, .inl (T 0, 12, .inl (fun _ => 0))), (a2, .inl (T 5, 1, .inr (.inl (fun _ => 0))))] s.heap.size = A at hD hG ⊢
  have hA : ∀ q : Nat, s.heap.size ≤ q → A q := fun q h => by rw [← hAe]; exact Or.inr h
  have hS : va_S A s.heap s.heap [] := va_S.rf
  have hl := lv_entry ([.ref a1, .int p1, .ref a2]) (n := 4) (Nat.le_of_ble_eq_true rfl)
  rw [lg_entry_eq]
  generalize (lg_sl ([.ref a1, .int p1, .ref a2]) ++ List.replicate (4 - (lg_sl ([.ref a1, .int p1, .ref a2])).length) Slot.unset).toArray = ls at hl ⊢
  have hl : lv_has ls 4 [(0, .ref a1), (1, .int p1), (2, .ref a2)] := hl
  refine lv_aload_n hx hb dL_countDiscs_0 rfl (lv_at hl 2 rfl) ?_
  refine lv_iconst (v := 0) hx hb dL_countDiscs_1 (by decide) ?_
  refine lv_aload_n hx hb dL_countDiscs_2 rfl (lv_at hl 0 rfl) ?_
  refine lv_iload_n hx hb dL_countDiscs_3 rfl (lv_at hl 1 rfl) ?_
  have hPc := hP.sub (ws' := [(a1, .inr (16, [.ref a3, .ref a4, .ref a5, .ref a6, .ref a7, .ref a8, .ref a9, .ref a10, .ref a11, .ref a12])), (a3, .inr (10, [.ref a13, .ref a14, .ref a15, .ref a16, .ref a17, .int 0, .int 0])), (a10, .inr (7, [.ref a31])), (a31, .inl (T 0, 12, .inl (fun _ => 0)))]) [0, 1, 2, 3] rfl
  have hDc := hD.sub (ws' := [(a1, .inr (16, [.ref a3, .ref a4, .ref a5, .ref a6, .ref a7, .ref a8, .ref a9, .ref a10, .ref a11, .ref a12])), (a3, .inr (10, [.ref a13, .ref a14, .ref a15, .ref a16, .ref a17, .int 0, .int 0])), (a10, .inr (7, [.ref a31])), (a31, .inl (T 0, 12, .inl (fun _ => 0)))]) [0, 1, 2, 3] (by decide) rfl
  have hFc := va_free (wc := [(a1, .inr (16, [.ref a3, .ref a4, .ref a5, .ref a6, .ref a7, .ref a8, .ref a9, .ref a10, .ref a11, .ref a12])), (a3, .inr (10, [.ref a13, .ref a14, .ref a15, .ref a16, .ref a17, .int 0, .int 0])), (a10, .inr (7, [.ref a31])), (a31, .inl (T 0, 12, .inl (fun _ => 0)))]) hD hS hA [0, 1, 2, 3] rfl
  refine vx_calli (vx_runV (As := [.int p1]) (rest := [.int 0, .ref a2]) ⟨hx, hb, hml, hown, hts⟩ (xcX11_countDiscs l hst dC dI T a1 a3 a4 a5 a6 a7 a8 a9 a10 a11 a12 a13 a14 a15 a16 a17 a31 s.heap.size p1) (cwV 1 hts gL_countDiscs_X11_countDiscs rfl rfl rfl (by decide +kernel) ⟨Nat.le_of_ble_eq_true rfl, Nat.le_of_ble_eq_true rfl⟩) ⟨xBlind, va_recv hK hPc (ci := 16) (q0 := 0) rfl rfl, xCall hK hG hS hPc hDc hFc⟩ rfl rfl hl.1 rfl (lv_room (Nat.le_of_ble_eq_true rfl)) dL_countDiscs_4 ⟨Nat.le_of_ble_eq_true rfl, Nat.le_of_ble_eq_true rfl⟩) hS (fun q _ h => hFc q h) hFc (fun q _ h => hFc q h) (fun E ce q9 u t H locs ht hvm hw hB hz1 hk1 hS hce hcv hcl => ?_) (fun r_9 u t H locs ht hvm hw hB hz1 hk1 hS => ?_)
  · rcases hB with ⟨c_1, hE, hP1, hD1⟩
    have hz_2 : ((99999) : Int32).toInt = 99999 := by decide +kernel
    subst hE
    rw [ht] at hP1
    obtain ⟨hP, hD⟩ := va_join (wr := [(a2, .inl (T 5, 1, .inr (.inl (fun _ => 0))))]) (w1 := []) hP hD [0, 1, 2, 3] [4] rfl rfl (by decide) (by decide) hk1 hFc hP1 hD1
    have hP : va_P (dC, dI) vwCl [(a2, .inl (T 5, 1, .inr (.inl (fun _ => 0))))] H := hP
    have hD : va_D A [(a2, .inl (T 5, 1, .inr (.inl (fun _ => 0))))] := hD
    clear hPc hDc hFc hP1 hD1 hk1 hz1 ht hvm
    refine vx_catch (E := "java/lang/IllegalArgumentException") (name := "java/lang/IllegalArgumentException") hown [] ⟨0, 9, 12, 13⟩ [] (htab.trans rfl) (fun _ h => absurd h List.not_mem_nil) (by decide) (by decide) (hts (.classLink RL 13 "java/lang/IllegalArgumentException") (by decide +kernel)) (xBad_use hG.2.2.2.1 _ (by decide +kernel)) hce hcv hcl ?_
    refine lv_astore_n (lv' := [(3, .ref q9), (0, .ref a1), (1, .int p1), (2, .ref a2)]) hx hb dL_countDiscs_12 rfl hl (by decide) rfl (fun ls hl => ?_)
    refine lv_iconst (v := 1) hx hb dL_countDiscs_13 (by decide) ?_
    have hP9 := hP.sub (ws' := [(a2, .inl (T 5, 1, .inr (.inl (fun _ => 0))))]) [0] rfl
    have hD9 := hD.sub (ws' := [(a2, .inl (T 5, 1, .inr (.inl (fun _ => 0))))]) [0] (by decide) rfl
    exact W.iret (v := 1) hx hb hr (fun t ht hW => ⟨⟨_, _, rfl, rfl, (Or.inl ⟨c_1, rfl, by rw [ht]; exact hP9, hD9⟩)⟩, hS.F ht⟩) hS.2.2 dL_countDiscs_14
  · subst hw
    rcases hB with ⟨c_3, hr_9, hP1, hD1⟩
    have hz_4 : ((99999) : Int32).toInt = 99999 := by decide +kernel
    rw [ht] at hP1
    subst hr_9
    obtain ⟨hP, hD⟩ := va_join (wr := [(a2, .inl (T 5, 1, .inr (.inl (fun _ => 0))))]) (w1 := []) hP hD [0, 1, 2, 3] [4] rfl rfl (by decide) (by decide) hk1 hFc hP1 hD1
    have hP : va_P (dC, dI) vwCl [(a2, .inl (T 5, 1, .inr (.inl (fun _ => 0))))] H := hP
    have hD : va_D A [(a2, .inl (T 5, 1, .inr (.inl (fun _ => 0))))] := hD
    clear hPc hDc hFc hP1 hD1 hk1 hz1 ht hvm
    refine lv_i2l (v := 0) hx hb dL_countDiscs_7 (by decide) ?_
    refine va_last hx hb hK hP hD hS 0 5 rfl rfl (show vp_in 0 1 by unfold vp_in; decide) dL_countDiscs_8 (fun H locs hP hD hS => ?_)
    have hP : va_P (dC, dI) vwCl [(a2, .inl (T 5, 1, .inr (.inl (vp_updL (fun _ => 0) (0 : Int32).toNatClampNeg 0))))] H := hP
    have hD : va_D A [(a2, .inl (T 5, 1, .inr (.inl (vp_updL (fun _ => 0) (0 : Int32).toNatClampNeg 0))))] := hD
    refine lv_goto (tgt := 15) hx hb dL_countDiscs_9 (by decide) ?_
    refine lv_iconst (v := 0) hx hb dL_countDiscs_15 (by decide) ?_
    have hP9 := hP.sub (ws' := [(a2, .inl (T 5, 1, .inr (.inl (vp_updL (fun _ => 0) (0 : Int32).toNatClampNeg 0))))]) [0] rfl
    have hD9 := hD.sub (ws' := [(a2, .inl (T 5, 1, .inr (.inl (vp_updL (fun _ => 0) (0 : Int32).toNatClampNeg 0))))]) [0] (by decide) rfl
    exact W.iret (v := 0) hx hb hr (fun t ht hW => ⟨⟨_, _, rfl, rfl, (Or.inr (⟨c_3, rfl, by rw [ht]; exact hP9, hD9⟩))⟩, hS.F ht⟩) hS.2.2 dL_countDiscs_16
set_option maxHeartbeats 4000000 in
set_option maxRecDepth 100000 in
theorem xcX3_findIn (l : Launch) (hst : l.stackTraces = false) (dC : Nat → ClassId) (dI : Nat → Nat → Nat) (T : Nat → ClassId) (a1 : Nat) (a2 : Nat) (a3 : Nat) (a4 : Nat) (a5 : Nat) (a6 : Nat) (a7 : Nat) (a8 : Nat) (a9 : Nat) (sz : Nat) : Met l yX3_findIn wsX3_findIn ({ frames := 2, cells := 0, slots := 0, locals := 42 } : Room) (va_Pc [.ref a1, .ref a2] (fun U => xB dC dI T [(a2, .inr (10, [.ref a3, .ref a4, .ref a5, .ref a6, .ref a7, .int 0, .int 0])), (a1, .inr (8, [.ref a8, .ref a9, .int 0, .int (-1)])), (a9, .inl (T 0, 12, .inl (fun _ => 0)))] sz U)) (va_Qv (fun _ : Unit => True) (fun (_ : Unit) (t : State) => xE dC dI [(a2, .inr (10, [.ref a3, .ref a4, .ref a5, .ref a6, .ref a7, .int 0, .int 0])), (a1, .inr (8, [.ref a8, .ref a9, .int 0, .int 0])), (a9, .inl (T 0, 12, .inl (fun _ => 0)))] (va_A [(a2, .inr (10, [.ref a3, .ref a4, .ref a5, .ref a6, .ref a7, .int 0, .int 0])), (a1, .inr (8, [.ref a8, .ref a9, .int 0, .int (-1)])), (a9, .inl (T 0, 12, .inl (fun _ => 0)))] sz) t) (va_A [(a2, .inr (10, [.ref a3, .ref a4, .ref a5, .ref a6, .ref a7, .int 0, .int 0])), (a1, .inr (8, [.ref a8, .ref a9, .int 0, .int (-1)])), (a9, .inl (T 0, 12, .inl (fun _ => 0)))] sz)) 0 0 (va_A [(a2, .inr (10, [.ref a3, .ref a4, .ref a5, .ref a6, .ref a7, .int 0, .int 0])), (a1, .inr (8, [.ref a8, .ref a9, .int 0, .int (-1)])), (a9, .inl (T 0, 12, .inl (fun _ => 0)))] sz) := by
  refine Met.ofW (cc := cX3_findIn) (maxL := 4) (ret := none) (by decide +kernel) rfl ?_
  intro p e s m args below meth c s₁ B hml hv
  obtain ⟨rfl, hsz, hP, hK, hD0, hG⟩ := hv
  have hx := B.exec
  have hb := B.bytes
  have hr := B.returns
  have hts := atoms_spec (ws := wsX3_findIn) B.pre
  have hown : s.vm.findClass RX3 = some m.cls := findClass_of_methodNamed B.named
  have hlocks := B.notSynchronized
  have hin_X3 : ∀ w ∈ wsX30, w ∈ wsX3_findIn := by decide +kernel
  have hin_X5 : ∀ w ∈ wsX50, w ∈ wsX3_findIn := by decide +kernel
  subst hsz
  have hD := hD0.self (sz := s.heap.size)
  generalize hAe : va_A [(a2, .inr (10, [.ref a3, .ref a4, .ref a5, .ref a6, .ref a7, .int 0, .int 0])), (a1, .inr (8, [.ref a8, .ref a9, .int 0, .int (-1)])), (a9, .inl (T 0, 12, .inl (fun _ => 0)))] s.heap.size = A at hD hG ⊢
  have hA : ∀ q : Nat, s.heap.size ≤ q → A q := fun q h => by rw [← hAe]; exact Or.inr h
  have hS : va_S A s.heap s.heap [] := va_S.rf
  have hl := lv_entry ([.ref a1, .ref a2]) (n := 4) (Nat.le_of_ble_eq_true rfl)
  rw [lg_entry_eq]
  generalize (lg_sl ([.ref a1, .ref a2]) ++ List.replicate (4 - (lg_sl ([.ref a1, .ref a2])).length) Slot.unset).toArray = ls at hl ⊢
  have hl : lv_has ls 4 [(0, .ref a1), (1, .ref a2)] := hl
  refine lv_aload_n hx hb dX3_findIn_0 rfl (lv_at hl 0 rfl) ?_
  refine va_get (D := (dC, dI)) (ci := 8) (v := .int (-1)) (C := RX3) (T := TX3) (N := 4) hx hb hts hin_X3 hown hK hP 1 rfl rfl 3 (by decide) (hts (.fieldLink RX3 18 "Nearestward$FatTriangles" "foundAt" "I") (by decide +kernel)) (fun _ h9 => h9) rfl dX3_findIn_1 ?_
  refine lv_aload_n hx hb dX3_findIn_4 rfl (lv_at hl 1 rfl) ?_
  refine va_get (D := (dC, dI)) (ci := 10) (v := .int 0) (C := RX5) (T := TX5) (N := 7) hx hb hts hin_X5 hown hK hP 0 rfl rfl 6 (by decide) (hts (.fieldLink RX3 22 "Nearestward$Ground" "changes" "I") (by decide +kernel)) (fun _ h9 => h9) rfl dX3_findIn_5 ?_
  refine lv_icmp_ne (tgt := 12) hx hb dX3_findIn_8 (by decide) (fun c_1 => ?_) (fun c_1 => absurd c_1 (by decide))
  refine lv_aload_n hx hb dX3_findIn_12 rfl (lv_at hl 0 rfl) ?_
  refine lv_aload_n hx hb dX3_findIn_13 rfl (lv_at hl 1 rfl) ?_
  refine va_get (D := (dC, dI)) (ci := 10) (v := .int 0) (C := RX5) (T := TX5) (N := 7) hx hb hts hin_X5 hown hK hP 0 rfl rfl 6 (by decide) (hts (.fieldLink RX3 22 "Nearestward$Ground" "changes" "I") (by decide +kernel)) (fun _ h9 => h9) rfl dX3_findIn_14 ?_
  refine va_put (D := (dC, dI)) (ci := 8) (v := .int 0) (ty := .int) (C := RX3) (T := TX3) (N := 4) hx hb hts hin_X3 tyX3 tyX3_ok nmX3 hown hK hP hD hS 1 rfl rfl 3 (by decide) (hts (.fieldLink RX3 18 "Nearestward$FatTriangles" "foundAt" "I") (by decide +kernel)) (fun _ h9 => h9) rfl (by decide +kernel) rfl rfl (Nat.le_of_ble_eq_true rfl) dX3_findIn_17 (fun H locs hP hD hS => ?_)
  have hP : va_P (dC, dI) vwCl [(a2, .inr (10, [.ref a3, .ref a4, .ref a5, .ref a6, .ref a7, .int 0, .int 0])), (a1, .inr (8, [.ref a8, .ref a9, .int 0, .int 0])), (a9, .inl (T 0, 12, .inl (fun _ => 0)))] H := hP
  have hD : va_D A [(a2, .inr (10, [.ref a3, .ref a4, .ref a5, .ref a6, .ref a7, .int 0, .int 0])), (a1, .inr (8, [.ref a8, .ref a9, .int 0, .int 0])), (a9, .inl (T 0, 12, .inl (fun _ => 0)))] := hD
  refine lv_aload_n hx hb dX3_findIn_20 rfl (lv_at hl 0 rfl) ?_
  refine lv_iconst (v := 0) hx hb dX3_findIn_21 (by decide) ?_
  refine va_put (D := (dC, dI)) (ci := 8) (v := .int 0) (ty := .int) (C := RX3) (T := TX3) (N := 4) hx hb hts hin_X3 tyX3 tyX3_ok nmX3 hown hK hP hD hS 1 rfl rfl 2 (by decide) (hts (.fieldLink RX3 27 "Nearestward$FatTriangles" "count" "I") (by decide +kernel)) (fun _ h9 => h9) rfl (by decide +kernel) rfl rfl (Nat.le_of_ble_eq_true rfl) dX3_findIn_22 (fun H locs hP hD hS => ?_)
  have hP : va_P (dC, dI) vwCl [(a2, .inr (10, [.ref a3, .ref a4, .ref a5, .ref a6, .ref a7, .int 0, .int 0])), (a1, .inr (8, [.ref a8, .ref a9, .int 0, .int 0])), (a9, .inl (T 0, 12, .inl (fun _ => 0)))] H := hP
  have hD : va_D A [(a2, .inr (10, [.ref a3, .ref a4, .ref a5, .ref a6, .ref a7, .int 0, .int 0])), (a1, .inr (8, [.ref a8, .ref a9, .int 0, .int 0])), (a9, .inl (T 0, 12, .inl (fun _ => 0)))] := hD
  refine lv_iconst (v := 0) hx hb dX3_findIn_25 (by decide) ?_
  refine lv_istore_n (lv' := [(2, .int 0), (0, .ref a1), (1, .ref a2)]) hx hb dX3_findIn_26 rfl hl (by decide) rfl (fun ls hl => ?_)
  refine xLoop (P := fun i_k_2 H locs ls => va_P (dC, dI) vwCl [(a2, .inr (10, [.ref a3, .ref a4, .ref a5, .ref a6, .ref a7, .int 0, .int 0])), (a1, .inr (8, [.ref a8, .ref a9, .int 0, .int 0])), (a9, .inl (T 0, 12, .inl (fun _ => 0)))] H ∧ va_D A [(a2, .inr (10, [.ref a3, .ref a4, .ref a5, .ref a6, .ref a7, .int 0, .int 0])), (a1, .inr (8, [.ref a8, .ref a9, .int 0, .int 0])), (a9, .inl (T 0, 12, .inl (fun _ => 0)))] ∧ va_S A s.heap H locs ∧ lv_has ls 4 [(2, .int (nI i_k_2)), (0, .ref a1), (1, .ref a2)]) (N := 12) (fun i_k_2 H locs ls hi_k_2 hI ih_k_2 => ?_) (0) _ _ _ (by omega) ⟨hP, hD, hS, lv_sub hl [0, 1, 2] rfl⟩
  obtain ⟨hP, hD, hS, hl⟩ := hI
  refine lv_iload_n hx hb dX3_findIn_27 rfl (lv_at hl 0 rfl) ?_
  refine lv_bipush (v := 12) hx hb dX3_findIn_28 (by decide) ?_
  have hz_4 : (nI i_k_2).toInt = ((i_k_2 : Nat) : Int) := nI_toInt (by omega)
  refine lv_icmp_ge (tgt := 46) hx hb dX3_findIn_30 (by decide) (fun c_3 => ?_) (fun c_3 => ?_)
  · have nc_3 : 12 ≤ (nI i_k_2).toInt := (xi_le (by decide +kernel) rfl).mp c_3
    refine lv_iconst (v := 0) hx hb dX3_findIn_46 (by decide) ?_
    refine lv_istore_n (lv' := [(2, .int 0), (0, .ref a1), (1, .ref a2)]) hx hb dX3_findIn_47 rfl hl (by decide) rfl (fun ls hl => ?_)
    refine xLoop (P := fun i_k_5 H locs ls => va_P (dC, dI) vwCl [(a2, .inr (10, [.ref a3, .ref a4, .ref a5, .ref a6, .ref a7, .int 0, .int 0])), (a1, .inr (8, [.ref a8, .ref a9, .int 0, .int 0])), (a9, .inl (T 0, 12, .inl (fun _ => 0)))] H ∧ va_D A [(a2, .inr (10, [.ref a3, .ref a4, .ref a5, .ref a6, .ref a7, .int 0, .int 0])), (a1, .inr (8, [.ref a8, .ref a9, .int 0, .int 0])), (a9, .inl (T 0, 12, .inl (fun _ => 0)))] ∧ va_S A s.heap H locs ∧ lv_has ls 4 [(2, .int (nI i_k_5)), (0, .ref a1), (1, .ref a2)]) (N := 12) (fun i_k_5 H locs ls hi_k_5 hI ih_k_5 => ?_) (0) _ _ _ (by omega) ⟨hP, hD, hS, lv_sub hl [0, 1, 2] rfl⟩
    obtain ⟨hP, hD, hS, hl⟩ := hI
    refine lv_iload_n hx hb dX3_findIn_48 rfl (lv_at hl 0 rfl) ?_
    refine lv_bipush (v := 12) hx hb dX3_findIn_49 (by decide) ?_
    have hz_7 : (nI i_k_5).toInt = ((i_k_5 : Nat) : Int) := nI_toInt (by omega)
    refine lv_icmp_ge (tgt := 99) hx hb dX3_findIn_51 (by decide) (fun c_6 => ?_) (fun c_6 => ?_)
    · have nc_6 : 12 ≤ (nI i_k_5).toInt := (xi_le (by decide +kernel) rfl).mp c_6
      have hP9 := hP.sub (ws' := [(a2, .inr (10, [.ref a3, .ref a4, .ref a5, .ref a6, .ref a7, .int 0, .int 0])), (a1, .inr (8, [.ref a8, .ref a9, .int 0, .int 0])), (a9, .inl (T 0, 12, .inl (fun _ => 0)))]) [0, 1, 2] rfl
      have hD9 := hD.sub (ws' := [(a2, .inr (10, [.ref a3, .ref a4, .ref a5, .ref a6, .ref a7, .int 0, .int 0])), (a1, .inr (8, [.ref a8, .ref a9, .int 0, .int 0])), (a9, .inl (T 0, 12, .inl (fun _ => 0)))]) [0, 1, 2] (by decide) rfl
      exact W.vret hx hb hr (fun t ht hW => ⟨⟨(), rfl, trivial, ⟨by rw [ht]; exact hP9, hD9⟩⟩, hS.F ht⟩) hS.2.2 dX3_findIn_99
    · have nc_6 : ¬ (12 ≤ (nI i_k_5).toInt) := mt (xi_le (by decide +kernel) rfl).mpr c_6
      refine lv_iload_n hx hb dX3_findIn_54 rfl (lv_at hl 0 rfl) ?_
      refine lv_iconst (v := 1) hx hb dX3_findIn_55 (by decide) ?_
      refine lv_iadd hx hb dX3_findIn_56 ?_
      refine lv_topi (fun f_8 ef_8 => ?_)
      obtain rfl : f_8 = (nI (i_k_5 + 1)) := ef_8.trans (nI_add _ _)
      refine lv_istore_n (lv' := [(3, .int (nI (i_k_5 + 1))), (2, .int (nI i_k_5)), (0, .ref a1), (1, .ref a2)]) hx hb dX3_findIn_57 rfl hl (by decide) rfl (fun ls hl => ?_)
      refine xLoop (P := fun i_k_9 H locs ls => va_P (dC, dI) vwCl [(a2, .inr (10, [.ref a3, .ref a4, .ref a5, .ref a6, .ref a7, .int 0, .int 0])), (a1, .inr (8, [.ref a8, .ref a9, .int 0, .int 0])), (a9, .inl (T 0, 12, .inl (fun _ => 0)))] H ∧ va_D A [(a2, .inr (10, [.ref a3, .ref a4, .ref a5, .ref a6, .ref a7, .int 0, .int 0])), (a1, .inr (8, [.ref a8, .ref a9, .int 0, .int 0])), (a9, .inl (T 0, 12, .inl (fun _ => 0)))] ∧ va_S A s.heap H locs ∧ lv_has ls 4 [(3, .int (nI i_k_9)), (2, .int (nI i_k_5)), (0, .ref a1), (1, .ref a2)]) (N := 12) (fun i_k_9 H locs ls hi_k_9 hI ih_k_9 => ?_) (i_k_5 + 1) _ _ _ (by omega) ⟨hP, hD, hS, lv_sub hl [0, 1, 2, 3] rfl⟩
      obtain ⟨hP, hD, hS, hl⟩ := hI
      refine lv_iload_n hx hb dX3_findIn_58 rfl (lv_at hl 0 rfl) ?_
      refine lv_bipush (v := 12) hx hb dX3_findIn_59 (by decide) ?_
      have hz_11 : (nI i_k_9).toInt = ((i_k_9 : Nat) : Int) := nI_toInt (by omega)
      refine lv_icmp_ge (tgt := 93) hx hb dX3_findIn_61 (by decide) (fun c_10 => ?_) (fun c_10 => ?_)
      · have nc_10 : 12 ≤ (nI i_k_9).toInt := (xi_le (by decide +kernel) rfl).mp c_10
        refine lv_iinc (v := (nI (i_k_5 + 1))) (lv' := [(2, .int (nI (i_k_5 + 1))), (3, .int (nI i_k_9)), (0, .ref a1), (1, .ref a2)]) hx hb dX3_findIn_93 hl (k := 1) rfl (nI_1 _) (by decide) rfl (fun ls hl => ?_)
        refine lv_goto (tgt := 48) hx hb dX3_findIn_96 (by decide) ?_
        exact ih_k_5 _ _ _ (by omega) ⟨hP, hD, hS, lv_sub hl [0, 2, 3] rfl⟩
      · have nc_10 : ¬ (12 ≤ (nI i_k_9).toInt) := mt (xi_le (by decide +kernel) rfl).mpr c_10
        refine lv_aload_n hx hb dX3_findIn_64 rfl (lv_at hl 3 rfl) ?_
        refine lv_iload_n hx hb dX3_findIn_65 rfl (lv_at hl 1 rfl) ?_
        have hPc := hP.sub (ws' := [(a2, .inr (10, [.ref a3, .ref a4, .ref a5, .ref a6, .ref a7, .int 0, .int 0]))]) [0] rfl
        have hDc := hD.sub (ws' := [(a2, .inr (10, [.ref a3, .ref a4, .ref a5, .ref a6, .ref a7, .int 0, .int 0]))]) [0] (by decide) rfl
        have hFc := va_free (wc := [(a2, .inr (10, [.ref a3, .ref a4, .ref a5, .ref a6, .ref a7, .int 0, .int 0]))]) hD hS hA [0] rfl
        refine va_calli (va_runV (As := [.int (nI i_k_5)]) (rest := []) ⟨hx, hb, hml, hown, hts⟩ (xcX5_has l hst dC dI T a2 a3 a4 a5 a6 a7 H.size (nI i_k_5)) (cwV 1 hts gX3_findIn_X5_has rfl rfl rfl (by decide +kernel) ⟨Nat.le_of_ble_eq_true rfl, Nat.le_of_ble_eq_true rfl⟩) ⟨xBlind, va_recv hK hPc (ci := 10) (q0 := 0) rfl rfl, xCall hK hG hS hPc hDc hFc⟩ rfl rfl hl.1 rfl (lv_room (Nat.le_of_ble_eq_true rfl)) dX3_findIn_66 ⟨Nat.le_of_ble_eq_true rfl, Nat.le_of_ble_eq_true rfl⟩) hS (fun q _ h => hFc q h) hFc (fun r_9 u t H locs ht hvm hw hB hz1 hk1 hS => ?_)
        subst hw
        rcases hB with ⟨hr_9, hP1, hD1⟩
        rw [ht] at hP1
        subst hr_9
        obtain ⟨hP, hD⟩ := va_join (wr := [(a1, .inr (8, [.ref a8, .ref a9, .int 0, .int 0])), (a9, .inl (T 0, 12, .inl (fun _ => 0)))]) (w1 := [(a2, .inr (10, [.ref a3, .ref a4, .ref a5, .ref a6, .ref a7, .int 0, .int 0]))]) hP hD [0] [1, 2] rfl rfl (by decide) (by decide) hk1 hFc hP1 hD1
        have hP := hP.sub (ws' := [(a2, .inr (10, [.ref a3, .ref a4, .ref a5, .ref a6, .ref a7, .int 0, .int 0])), (a1, .inr (8, [.ref a8, .ref a9, .int 0, .int 0])), (a9, .inl (T 0, 12, .inl (fun _ => 0)))]) [2, 0, 1] rfl
        have hD := hD.sub (ws' := [(a2, .inr (10, [.ref a3, .ref a4, .ref a5, .ref a6, .ref a7, .int 0, .int 0])), (a1, .inr (8, [.ref a8, .ref a9, .int 0, .int 0])), (a9, .inl (T 0, 12, .inl (fun _ => 0)))]) [2, 0, 1] (by decide) rfl
        clear hPc hDc hFc hP1 hD1 hk1 hz1 ht hvm
        refine lv_if_eq (tgt := 87) hx hb dX3_findIn_69 (by decide) (fun c_13 => ?_) (fun c_13 => absurd (by decide) c_13)
        refine lv_iinc (v := (nI (i_k_9 + 1))) (lv' := [(3, .int (nI (i_k_9 + 1))), (2, .int (nI i_k_5)), (0, .ref a1), (1, .ref a2)]) hx hb dX3_findIn_87 hl (k := 0) rfl (nI_1 _) (by decide) rfl (fun ls hl => ?_)
        refine lv_goto (tgt := 58) hx hb dX3_findIn_90 (by decide) ?_
        exact ih_k_9 _ _ _ (by omega) ⟨hP, hD, hS, lv_sub hl [0, 1, 2, 3] rfl⟩
  · have nc_3 : ¬ (12 ≤ (nI i_k_2).toInt) := mt (xi_le (by decide +kernel) rfl).mpr c_3
    refine lv_aload_n hx hb dX3_findIn_33 rfl (lv_at hl 1 rfl) ?_
    refine va_get (D := (dC, dI)) (ci := 8) (v := .ref a9) (C := RX3) (T := TX3) (N := 4) hx hb hts hin_X3 hown hK hP 1 rfl rfl 1 (by decide) (hts (.fieldLink RX3 15 "Nearestward$FatTriangles" "neighbours" "[I") (by decide +kernel)) (fun _ h9 => h9) rfl dX3_findIn_34 ?_
    refine lv_iload_n hx hb dX3_findIn_37 rfl (lv_at hl 0 rfl) ?_
    refine lv_iconst (v := 0) hx hb dX3_findIn_38 (by decide) ?_
    refine va_iast hx hb hK hP hD hS 2 0 rfl rfl (vp_in_nI (by omega) (by decide)) dX3_findIn_39 (fun H locs hP hD hS => ?_)
    have hP : va_P (dC, dI) vwCl [(a2, .inr (10, [.ref a3, .ref a4, .ref a5, .ref a6, .ref a7, .int 0, .int 0])), (a1, .inr (8, [.ref a8, .ref a9, .int 0, .int 0])), (a9, .inl (T 0, 12, .inl (fun _ => 0)))] H := by have h9 : va_P (dC, dI) vwCl [(a2, .inr (10, [.ref a3, .ref a4, .ref a5, .ref a6, .ref a7, .int 0, .int 0])), (a1, .inr (8, [.ref a8, .ref a9, .int 0, .int 0])), (a9, .inl (T 0, 12, .inl (upd (fun _ => 0) ((nI i_k_2) : Int32).toNatClampNeg 0)))] H := hP; rw [xz] at h9; exact h9
    have hD : va_D A [(a2, .inr (10, [.ref a3, .ref a4, .ref a5, .ref a6, .ref a7, .int 0, .int 0])), (a1, .inr (8, [.ref a8, .ref a9, .int 0, .int 0])), (a9, .inl (T 0, 12, .inl (fun _ => 0)))] := by have h9 : va_D A [(a2, .inr (10, [.ref a3, .ref a4, .ref a5, .ref a6, .ref a7, .int 0, .int 0])), (a1, .inr (8, [.ref a8, .ref a9, .int 0, .int 0])), (a9, .inl (T 0, 12, .inl (upd (fun _ => 0) ((nI i_k_2) : Int32).toNatClampNeg 0)))] := hD; rw [xz] at h9; exact h9
    refine lv_iinc (v := (nI (i_k_2 + 1))) (lv' := [(2, .int (nI (i_k_2 + 1))), (0, .ref a1), (1, .ref a2)]) hx hb dX3_findIn_40 hl (k := 0) rfl (nI_1 _) (by decide) rfl (fun ls hl => ?_)
    refine lv_goto (tgt := 27) hx hb dX3_findIn_43 (by decide) ?_
    exact ih_k_2 _ _ _ (by omega) ⟨hP, hD, hS, lv_sub hl [0, 1, 2] rfl⟩
set_option maxHeartbeats 4000000 in
set_option maxRecDepth 100000 in
theorem xcX8_startWith (l : Launch) (hst : l.stackTraces = false) (dC : Nat → ClassId) (dI : Nat → Nat → Nat) (T : Nat → ClassId) (a1 : Nat) (a2 : Nat) (a3 : Nat) (a4 : Nat) (a5 : Nat) (a6 : Nat) (a7 : Nat) (a8 : Nat) (sz : Nat) : Met l yX8_startWith wsX8_startWith ({ frames := 2, cells := 0, slots := 0, locals := 42 } : Room) (va_Pc [.ref a1, .ref a2] (fun U => xB dC dI T [(a2, .inr (10, [.ref a3, .ref a4, .ref a5, .ref a6, .ref a7, .int 0, .int 0])), (a1, .inr (13, [.ref a8, .int 0])), (a8, .inl (T 0, 12, .inl (fun _ => 0)))] sz U)) (va_Qv (fun _ : Unit => True) (fun (_ : Unit) (t : State) => ∃ (g_2 : Nat → Int32), xE dC dI [(a2, .inr (10, [.ref a3, .ref a4, .ref a5, .ref a6, .ref a7, .int 0, .int 0])), (a1, .inr (13, [.ref a8, .int 0])), (a8, .inl (T 0, 12, .inl g_2))] (va_A [(a2, .inr (10, [.ref a3, .ref a4, .ref a5, .ref a6, .ref a7, .int 0, .int 0])), (a1, .inr (13, [.ref a8, .int 0])), (a8, .inl (T 0, 12, .inl (fun _ => 0)))] sz) t) (va_A [(a2, .inr (10, [.ref a3, .ref a4, .ref a5, .ref a6, .ref a7, .int 0, .int 0])), (a1, .inr (13, [.ref a8, .int 0])), (a8, .inl (T 0, 12, .inl (fun _ => 0)))] sz)) 0 0 (va_A [(a2, .inr (10, [.ref a3, .ref a4, .ref a5, .ref a6, .ref a7, .int 0, .int 0])), (a1, .inr (13, [.ref a8, .int 0])), (a8, .inl (T 0, 12, .inl (fun _ => 0)))] sz) := by
  refine Met.ofW (cc := cX8_startWith) (maxL := 3) (ret := none) (by decide +kernel) rfl ?_
  intro p e s m args below meth c s₁ B hml hv
  obtain ⟨rfl, hsz, hP, hK, hD0, hG⟩ := hv
  have hx := B.exec
  have hb := B.bytes
  have hr := B.returns
  have hts := atoms_spec (ws := wsX8_startWith) B.pre
  have hown : s.vm.findClass RX8 = some m.cls := findClass_of_methodNamed B.named
  have hlocks := B.notSynchronized
  have hin_X8 : ∀ w ∈ wsX80, w ∈ wsX8_startWith := by decide +kernel
  subst hsz
  have hD := hD0.self (sz := s.heap.size)
  generalize hAe : va_A [(a2, .inr (10, [.ref a3, .ref a4, .ref a5, .ref a6, .ref a7, .int 0, .int 0])), (a1, .inr (13, [.ref a8, .int 0])), (a8, .inl (T 0, 12, .inl (fun _ => 0)))] s.heap.size = A at hD hG ⊢
  have hA : ∀ q : Nat, s.heap.size ≤ q → A q := fun q h => by rw [← hAe]; exact Or.inr h
  have hS : va_S A s.heap s.heap [] := va_S.rf
  have hl := lv_entry ([.ref a1, .ref a2]) (n := 3) (Nat.le_of_ble_eq_true rfl)
  rw [lg_entry_eq]
  generalize (lg_sl ([.ref a1, .ref a2]) ++ List.replicate (3 - (lg_sl ([.ref a1, .ref a2])).length) Slot.unset).toArray = ls at hl ⊢
  have hl : lv_has ls 3 [(0, .ref a1), (1, .ref a2)] := hl
  refine lv_iconst (v := 0) hx hb dX8_startWith_0 (by decide) ?_
  refine lv_istore_n (lv' := [(2, .int 0), (0, .ref a1), (1, .ref a2)]) hx hb dX8_startWith_1 rfl hl (by decide) rfl (fun ls hl => ?_)
  refine xLoop (P := fun i_k_1 H locs ls => ∃ (g_2 : Nat → Int32), va_P (dC, dI) vwCl [(a2, .inr (10, [.ref a3, .ref a4, .ref a5, .ref a6, .ref a7, .int 0, .int 0])), (a1, .inr (13, [.ref a8, .int 0])), (a8, .inl (T 0, 12, .inl g_2))] H ∧ va_D A [(a2, .inr (10, [.ref a3, .ref a4, .ref a5, .ref a6, .ref a7, .int 0, .int 0])), (a1, .inr (13, [.ref a8, .int 0])), (a8, .inl (T 0, 12, .inl g_2))] ∧ va_S A s.heap H locs ∧ lv_has ls 3 [(2, .int (nI i_k_1)), (0, .ref a1), (1, .ref a2)]) (N := 12) (fun i_k_1 H locs ls hi_k_1 hI ih_k_1 => ?_) (0) _ _ _ (by omega) ⟨(fun _ => 0), hP, hD, hS, lv_sub hl [0, 1, 2] rfl⟩
  obtain ⟨g_2, hP, hD, hS, hl⟩ := hI
  refine lv_iload_n hx hb dX8_startWith_2 rfl (lv_at hl 0 rfl) ?_
  refine lv_bipush (v := 12) hx hb dX8_startWith_3 (by decide) ?_
  have hz_4 : (nI i_k_1).toInt = ((i_k_1 : Nat) : Int) := nI_toInt (by omega)
  refine lv_icmp_ge (tgt := 33) hx hb dX8_startWith_5 (by decide) (fun c_3 => ?_) (fun c_3 => ?_)
  · have nc_3 : 12 ≤ (nI i_k_1).toInt := (xi_le (by decide +kernel) rfl).mp c_3
    refine lv_aload_n hx hb dX8_startWith_33 rfl (lv_at hl 1 rfl) ?_
    refine lv_aload_n hx hb dX8_startWith_34 rfl (lv_at hl 2 rfl) ?_
    have hPc := hP.sub (ws' := [(a2, .inr (10, [.ref a3, .ref a4, .ref a5, .ref a6, .ref a7, .int 0, .int 0]))]) [0] rfl
    have hDc := hD.sub (ws' := [(a2, .inr (10, [.ref a3, .ref a4, .ref a5, .ref a6, .ref a7, .int 0, .int 0]))]) [0] (by decide) rfl
    have hFc := va_free (wc := [(a2, .inr (10, [.ref a3, .ref a4, .ref a5, .ref a6, .ref a7, .int 0, .int 0]))]) hD hS hA [0] rfl
    refine va_calli (va_runV (As := []) (rest := [.ref a1]) ⟨hx, hb, hml, hown, hts⟩ (xcX5_count l hst dC dI T a2 a3 a4 a5 a6 a7 H.size) (cwV 0 hts gX8_startWith_X5_count rfl rfl rfl (by decide +kernel) ⟨Nat.le_of_ble_eq_true rfl, Nat.le_of_ble_eq_true rfl⟩) ⟨xBlind, va_recv hK hPc (ci := 10) (q0 := 0) rfl rfl, xCall hK hG hS hPc hDc hFc⟩ rfl rfl hl.1 rfl (lv_room (Nat.le_of_ble_eq_true rfl)) dX8_startWith_35 ⟨Nat.le_of_ble_eq_true rfl, Nat.le_of_ble_eq_true rfl⟩) hS (fun q _ h => hFc q h) hFc (fun r_9 u t H locs ht hvm hw hB hz1 hk1 hS => ?_)
    subst hw
    rcases hB with ⟨hr_9, hP1, hD1⟩
    rw [ht] at hP1
    subst hr_9
    obtain ⟨hP, hD⟩ := va_join (wr := [(a1, .inr (13, [.ref a8, .int 0])), (a8, .inl (T 0, 12, .inl g_2))]) (w1 := [(a2, .inr (10, [.ref a3, .ref a4, .ref a5, .ref a6, .ref a7, .int 0, .int 0]))]) hP hD [0] [1, 2] rfl rfl (by decide) (by decide) hk1 hFc hP1 hD1
    have hP := hP.sub (ws' := [(a2, .inr (10, [.ref a3, .ref a4, .ref a5, .ref a6, .ref a7, .int 0, .int 0])), (a1, .inr (13, [.ref a8, .int 0])), (a8, .inl (T 0, 12, .inl g_2))]) [2, 0, 1] rfl
    have hD := hD.sub (ws' := [(a2, .inr (10, [.ref a3, .ref a4, .ref a5, .ref a6, .ref a7, .int 0, .int 0])), (a1, .inr (13, [.ref a8, .int 0])), (a8, .inl (T 0, 12, .inl g_2))]) [2, 0, 1] (by decide) rfl
    clear hPc hDc hFc hP1 hD1 hk1 hz1 ht hvm
    refine va_put (D := (dC, dI)) (ci := 13) (v := .int 0) (ty := .int) (C := RX8) (T := TX8) (N := 2) hx hb hts hin_X8 tyX8 tyX8_ok nmX8 hown hK hP hD hS 1 rfl rfl 1 (by decide) (hts (.fieldLink RX8 25 "Nearestward$Parts" "count" "I") (by decide +kernel)) (fun _ h9 => h9) rfl (by decide +kernel) rfl rfl (Nat.le_of_ble_eq_true rfl) dX8_startWith_38 (fun H locs hP hD hS => ?_)
    have hP : va_P (dC, dI) vwCl [(a2, .inr (10, [.ref a3, .ref a4, .ref a5, .ref a6, .ref a7, .int 0, .int 0])), (a1, .inr (13, [.ref a8, .int 0])), (a8, .inl (T 0, 12, .inl g_2))] H := hP
    have hD : va_D A [(a2, .inr (10, [.ref a3, .ref a4, .ref a5, .ref a6, .ref a7, .int 0, .int 0])), (a1, .inr (13, [.ref a8, .int 0])), (a8, .inl (T 0, 12, .inl g_2))] := hD
    have hP9 := hP.sub (ws' := [(a2, .inr (10, [.ref a3, .ref a4, .ref a5, .ref a6, .ref a7, .int 0, .int 0])), (a1, .inr (13, [.ref a8, .int 0])), (a8, .inl (T 0, 12, .inl g_2))]) [0, 1, 2] rfl
    have hD9 := hD.sub (ws' := [(a2, .inr (10, [.ref a3, .ref a4, .ref a5, .ref a6, .ref a7, .int 0, .int 0])), (a1, .inr (13, [.ref a8, .int 0])), (a8, .inl (T 0, 12, .inl g_2))]) [0, 1, 2] (by decide) rfl
    exact W.vret hx hb hr (fun t ht hW => ⟨⟨(), rfl, trivial, ⟨g_2, by rw [ht]; exact hP9, hD9⟩⟩, hS.F ht⟩) hS.2.2 dX8_startWith_41
  · have nc_3 : ¬ (12 ≤ (nI i_k_1).toInt) := mt (xi_le (by decide +kernel) rfl).mpr c_3
    refine lv_aload_n hx hb dX8_startWith_8 rfl (lv_at hl 1 rfl) ?_
    refine va_get (D := (dC, dI)) (ci := 13) (v := .ref a8) (C := RX8) (T := TX8) (N := 2) hx hb hts hin_X8 hown hK hP 1 rfl rfl 0 (by decide) (hts (.fieldLink RX8 9 "Nearestward$Parts" "part" "[I") (by decide +kernel)) (fun _ h9 => h9) rfl dX8_startWith_9 ?_
    refine lv_iload_n hx hb dX8_startWith_12 rfl (lv_at hl 0 rfl) ?_
    refine lv_aload_n hx hb dX8_startWith_13 rfl (lv_at hl 2 rfl) ?_
    refine lv_iload_n hx hb dX8_startWith_14 rfl (lv_at hl 0 rfl) ?_
    have hPc := hP.sub (ws' := [(a2, .inr (10, [.ref a3, .ref a4, .ref a5, .ref a6, .ref a7, .int 0, .int 0]))]) [0] rfl
    have hDc := hD.sub (ws' := [(a2, .inr (10, [.ref a3, .ref a4, .ref a5, .ref a6, .ref a7, .int 0, .int 0]))]) [0] (by decide) rfl
    have hFc := va_free (wc := [(a2, .inr (10, [.ref a3, .ref a4, .ref a5, .ref a6, .ref a7, .int 0, .int 0]))]) hD hS hA [0] rfl
    refine va_calli (va_runV (As := [.int (nI i_k_1)]) (rest := [.int (nI i_k_1), .ref a8]) ⟨hx, hb, hml, hown, hts⟩ (xcX5_has l hst dC dI T a2 a3 a4 a5 a6 a7 H.size (nI i_k_1)) (cwV 1 hts gX8_startWith_X5_has rfl rfl rfl (by decide +kernel) ⟨Nat.le_of_ble_eq_true rfl, Nat.le_of_ble_eq_true rfl⟩) ⟨xBlind, va_recv hK hPc (ci := 10) (q0 := 0) rfl rfl, xCall hK hG hS hPc hDc hFc⟩ rfl rfl hl.1 rfl (lv_room (Nat.le_of_ble_eq_true rfl)) dX8_startWith_15 ⟨Nat.le_of_ble_eq_true rfl, Nat.le_of_ble_eq_true rfl⟩) hS (fun q _ h => hFc q h) hFc (fun r_9 u t H locs ht hvm hw hB hz1 hk1 hS => ?_)
    subst hw
    rcases hB with ⟨hr_9, hP1, hD1⟩
    rw [ht] at hP1
    subst hr_9
    obtain ⟨hP, hD⟩ := va_join (wr := [(a1, .inr (13, [.ref a8, .int 0])), (a8, .inl (T 0, 12, .inl g_2))]) (w1 := [(a2, .inr (10, [.ref a3, .ref a4, .ref a5, .ref a6, .ref a7, .int 0, .int 0]))]) hP hD [0] [1, 2] rfl rfl (by decide) (by decide) hk1 hFc hP1 hD1
    have hP := hP.sub (ws' := [(a2, .inr (10, [.ref a3, .ref a4, .ref a5, .ref a6, .ref a7, .int 0, .int 0])), (a1, .inr (13, [.ref a8, .int 0])), (a8, .inl (T 0, 12, .inl g_2))]) [2, 0, 1] rfl
    have hD := hD.sub (ws' := [(a2, .inr (10, [.ref a3, .ref a4, .ref a5, .ref a6, .ref a7, .int 0, .int 0])), (a1, .inr (13, [.ref a8, .int 0])), (a8, .inl (T 0, 12, .inl g_2))]) [2, 0, 1] (by decide) rfl
    clear hPc hDc hFc hP1 hD1 hk1 hz1 ht hvm
    refine lv_if_eq (tgt := 25) hx hb dX8_startWith_18 (by decide) (fun c_7 => ?_) (fun c_7 => absurd (by decide) c_7)
    refine lv_iconst (v := (-1)) hx hb dX8_startWith_25 (by decide) ?_
    refine va_iast hx hb hK hP hD hS 2 0 rfl rfl (vp_in_nI (by omega) (by decide)) dX8_startWith_26 (fun H locs hP hD hS => ?_)
    have hP : va_P (dC, dI) vwCl [(a2, .inr (10, [.ref a3, .ref a4, .ref a5, .ref a6, .ref a7, .int 0, .int 0])), (a1, .inr (13, [.ref a8, .int 0])), (a8, .inl (T 0, 12, .inl (upd g_2 ((nI i_k_1) : Int32).toNatClampNeg (-1))))] H := hP
    have hD : va_D A [(a2, .inr (10, [.ref a3, .ref a4, .ref a5, .ref a6, .ref a7, .int 0, .int 0])), (a1, .inr (13, [.ref a8, .int 0])), (a8, .inl (T 0, 12, .inl (upd g_2 ((nI i_k_1) : Int32).toNatClampNeg (-1))))] := hD
    refine lv_iinc (v := (nI (i_k_1 + 1))) (lv' := [(2, .int (nI (i_k_1 + 1))), (0, .ref a1), (1, .ref a2)]) hx hb dX8_startWith_27 hl (k := 0) rfl (nI_1 _) (by decide) rfl (fun ls hl => ?_)
    refine lv_goto (tgt := 2) hx hb dX8_startWith_30 (by decide) ?_
    exact ih_k_1 _ _ _ (by omega) ⟨(upd g_2 ((nI i_k_1) : Int32).toNatClampNeg (-1)), hP, hD, hS, lv_sub hl [0, 1, 2] rfl⟩
set_option maxHeartbeats 4000000 in
set_option maxRecDepth 100000 in
theorem xcX3_isEdge (l : Launch) (hst : l.stackTraces = false) (dC : Nat → ClassId) (dI : Nat → Nat → Nat) (T : Nat → ClassId) (a1 : Nat) (a2 : Nat) (a3 : Nat) (sz : Nat) (n1 : Nat) (p2 : Int32) (hn1 : n1 < 12) : Met l yX3_isEdge wsX3_isEdge ({ frames := 1, cells := 0, slots := 0, locals := 21 } : Room) (va_Pc [.ref a1, .int (nI n1), .int p2] (fun U => xB dC dI T [(a1, .inr (8, [.ref a2, .ref a3, .int 0, .int 0])), (a3, .inl (T 0, 12, .inl (fun _ => 0)))] sz U)) (va_Qi (fun (r u : Int32) => r = u) (fun (u : Int32) (t : State) => 0 = u ∧ xE dC dI [(a1, .inr (8, [.ref a2, .ref a3, .int 0, .int 0])), (a3, .inl (T 0, 12, .inl (fun _ => 0)))] (va_A [(a1, .inr (8, [.ref a2, .ref a3, .int 0, .int 0])), (a3, .inl (T 0, 12, .inl (fun _ => 0)))] sz) t) (va_A [(a1, .inr (8, [.ref a2, .ref a3, .int 0, .int 0])), (a3, .inl (T 0, 12, .inl (fun _ => 0)))] sz)) 0 0 (va_A [(a1, .inr (8, [.ref a2, .ref a3, .int 0, .int 0])), (a3, .inl (T 0, 12, .inl (fun _ => 0)))] sz) := by
  refine Met.ofW (cc := cX3_isEdge) (maxL := 3) (ret := (some .boolean)) (by decide +kernel) rfl ?_
  intro p e s m args below meth c s₁ B hml hv
  obtain ⟨rfl, hsz, hP, hK, hD0, hG⟩ := hv
  have hx := B.exec
  have hb := B.bytes
  have hr := B.returns
  have hts := atoms_spec (ws := wsX3_isEdge) B.pre
  have hown : s.vm.findClass RX3 = some m.cls := findClass_of_methodNamed B.named
  have hlocks := B.notSynchronized
  have hin_X3 : ∀ w ∈ wsX30, w ∈ wsX3_isEdge := by decide +kernel
  subst hsz
  have hD := hD0.self (sz := s.heap.size)
  generalize hAe : va_A [(a1, .inr (8, [.ref a2, .ref a3, .int 0, .int 0])), (a3, .inl (T 0, 12, .inl (fun _ => 0)))] s.heap.size = A at hD hG ⊢
  have hA : ∀ q : Nat, s.heap.size ≤ q → A q := fun q h => by rw [← hAe]; exact Or.inr h
  have hS : va_S A s.heap s.heap [] := va_S.rf
  have hl := lv_entry ([.ref a1, .int (nI n1), .int p2]) (n := 3) (Nat.le_of_ble_eq_true rfl)
  rw [lg_entry_eq]
  generalize (lg_sl ([.ref a1, .int (nI n1), .int p2]) ++ List.replicate (3 - (lg_sl ([.ref a1, .int (nI n1), .int p2])).length) Slot.unset).toArray = ls at hl ⊢
  have hl : lv_has ls 3 [(0, .ref a1), (1, .int (nI n1)), (2, .int p2)] := hl
  refine lv_aload_n hx hb dX3_isEdge_0 rfl (lv_at hl 0 rfl) ?_
  refine va_get (D := (dC, dI)) (ci := 8) (v := .ref a3) (C := RX3) (T := TX3) (N := 4) hx hb hts hin_X3 hown hK hP 0 rfl rfl 1 (by decide) (hts (.fieldLink RX3 15 "Nearestward$FatTriangles" "neighbours" "[I") (by decide +kernel)) (fun _ h9 => h9) rfl dX3_isEdge_1 ?_
  refine lv_iload_n hx hb dX3_isEdge_4 rfl (lv_at hl 1 rfl) ?_
  refine va_iald hx hb hK hP 1 0 rfl rfl (vp_in_nI (by omega) (by decide)) dX3_isEdge_5 ?_
  refine lv_topi (fun f_1 ef_1 => ?_)
  obtain rfl : f_1 = 0 := ef_1
  refine lv_iload_n hx hb dX3_isEdge_6 rfl (lv_at hl 2 rfl) ?_
  have hPc := hP.sub (ws' := []) [] rfl
  have hDc := hD.sub (ws' := []) [] (by decide) rfl
  have hFc := va_free (wc := []) hD hS hA [] rfl
  refine va_calli (va_runSN (As := [.int 0, .int p2]) (rest := []) ⟨hx, hb, hml, hown, hts⟩ (xcX11_isIn l hst dC dI T s.heap.size p2) ⟨(va_cnB 2 hts gX3_isEdge_X11_isIn_n57 rfl rfl rfl (hG.2.2.1 (.methodLinkNest RX3 57 yX11_isIn RX11) (by decide +kernel)) (hts (.initialized RX11) (by decide +kernel)) (by decide +kernel) ⟨Nat.le_of_ble_eq_true rfl, Nat.le_of_ble_eq_true rfl⟩), hts (.static yX11_isIn) (by decide +kernel), trivial⟩ ⟨xBlind, xCall hK hG hS hPc hDc hFc⟩ rfl rfl hl.1 rfl (lv_room (Nat.le_of_ble_eq_true rfl)) dX3_isEdge_7 ⟨Nat.le_of_ble_eq_true rfl, Nat.le_of_ble_eq_true rfl⟩) hS (fun q _ h => hFc q h) hFc (fun r_9 u t H locs ht hvm hw hB hz1 hk1 hS => ?_)
  subst hw
  rcases hB with ⟨hr_9, hP1, hD1⟩
  rw [ht] at hP1
  subst hr_9
  obtain ⟨hP, hD⟩ := va_join (wr := [(a1, .inr (8, [.ref a2, .ref a3, .int 0, .int 0])), (a3, .inl (T 0, 12, .inl (fun _ => 0)))]) (w1 := []) hP hD [] [0, 1] rfl rfl (by decide) (by decide) hk1 hFc hP1 hD1
  have hP : va_P (dC, dI) vwCl [(a1, .inr (8, [.ref a2, .ref a3, .int 0, .int 0])), (a3, .inl (T 0, 12, .inl (fun _ => 0)))] H := hP
  have hD : va_D A [(a1, .inr (8, [.ref a2, .ref a3, .int 0, .int 0])), (a3, .inl (T 0, 12, .inl (fun _ => 0)))] := hD
  clear hPc hDc hFc hP1 hD1 hk1 hz1 ht hvm
  have hP9 := hP.sub (ws' := [(a1, .inr (8, [.ref a2, .ref a3, .int 0, .int 0])), (a3, .inl (T 0, 12, .inl (fun _ => 0)))]) [0, 1] rfl
  have hD9 := hD.sub (ws' := [(a1, .inr (8, [.ref a2, .ref a3, .int 0, .int 0])), (a3, .inl (T 0, 12, .inl (fun _ => 0)))]) [0, 1] (by decide) rfl
  exact W.zret (v := 0) hx hb hr (by decide) (fun t ht hW => ⟨⟨_, _, rfl, rfl, ⟨rfl, by rw [ht]; exact hP9, hD9⟩⟩, hS.F ht⟩) hS.2.2 dX3_isEdge_10
set_option maxHeartbeats 4000000 in
set_option maxRecDepth 100000 in
theorem xcX9_cutAt (l : Launch) (hst : l.stackTraces = false) (dC : Nat → ClassId) (dI : Nat → Nat → Nat) (T : Nat → ClassId) (a1 : Nat) (a2 : Nat) (a3 : Nat) (a4 : Nat) (a5 : Nat) (a6 : Nat) (a7 : Nat) (a8 : Nat) (a9 : Nat) (a10 : Nat) (a11 : Nat) (a12 : Nat) (sz : Nat) (p3 : Int32) : Met l yX9_cutAt wsX9_cutAt ({ frames := 3, cells := 0, slots := 0, locals := 64 } : Room) (va_Pc [.ref a1, .ref a2, .ref a3, .int p3] (fun U => xB dC dI T [(a2, .inr (10, [.ref a4, .ref a5, .ref a6, .ref a7, .ref a8, .int 0, .int 0])), (a3, .inr (8, [.ref a9, .ref a10, .int 0, .int 0])), (a10, .inl (T 0, 12, .inl (fun _ => 0))), (a1, .inr (14, [.ref a11, .int 0, .int 0])), (a11, .inr (13, [.ref a12, .int 0])), (a12, .inl (T 0, 12, .inl (fun _ => 0)))] sz U)) (va_Qv (fun _ : Unit => True) (fun (_ : Unit) (t : State) => ∃ (g_1 : Nat → Int32), xE dC dI [(a2, .inr (10, [.ref a4, .ref a5, .ref a6, .ref a7, .ref a8, .int 0, .int 0])), (a3, .inr (8, [.ref a9, .ref a10, .int 0, .int 0])), (a10, .inl (T 0, 12, .inl (fun _ => 0))), (a1, .inr (14, [.ref a11, .int 0, .int 0])), (a11, .inr (13, [.ref a12, .int 0])), (a12, .inl (T 0, 12, .inl g_1))] (va_A [(a2, .inr (10, [.ref a4, .ref a5, .ref a6, .ref a7, .ref a8, .int 0, .int 0])), (a3, .inr (8, [.ref a9, .ref a10, .int 0, .int 0])), (a10, .inl (T 0, 12, .inl (fun _ => 0))), (a1, .inr (14, [.ref a11, .int 0, .int 0])), (a11, .inr (13, [.ref a12, .int 0])), (a12, .inl (T 0, 12, .inl (fun _ => 0)))] sz) t) (va_A [(a2, .inr (10, [.ref a4, .ref a5, .ref a6, .ref a7, .ref a8, .int 0, .int 0])), (a3, .inr (8, [.ref a9, .ref a10, .int 0, .int 0])), (a10, .inl (T 0, 12, .inl (fun _ => 0))), (a1, .inr (14, [.ref a11, .int 0, .int 0])), (a11, .inr (13, [.ref a12, .int 0])), (a12, .inl (T 0, 12, .inl (fun _ => 0)))] sz)) 0 0 (va_A [(a2, .inr (10, [.ref a4, .ref a5, .ref a6, .ref a7, .ref a8, .int 0, .int 0])), (a3, .inr (8, [.ref a9, .ref a10, .int 0, .int 0])), (a10, .inl (T 0, 12, .inl (fun _ => 0))), (a1, .inr (14, [.ref a11, .int 0, .int 0])), (a11, .inr (13, [.ref a12, .int 0])), (a12, .inl (T 0, 12, .inl (fun _ => 0)))] sz) := by
  refine Met.ofW (cc := cX9_cutAt) (maxL := 6) (ret := none) (by decide +kernel) rfl ?_
  intro p e s m args below meth c s₁ B hml hv
  obtain ⟨rfl, hsz, hP, hK, hD0, hG⟩ := hv
  have hx := B.exec
  have hb := B.bytes
  have hr := B.returns
  have hts := atoms_spec (ws := wsX9_cutAt) B.pre
  have hown : s.vm.findClass RX9 = some m.cls := findClass_of_methodNamed B.named
  have hlocks := B.notSynchronized
  have hin_X3 : ∀ w ∈ wsX30, w ∈ wsX9_cutAt := by decide +kernel
  have hin_X9 : ∀ w ∈ wsX90, w ∈ wsX9_cutAt := by decide +kernel
  subst hsz
  have hD := hD0.self (sz := s.heap.size)
  generalize hAe : va_A [(a2, .inr (10, [.ref a4, .ref a5, .ref a6, .ref a7, .ref a8, .int 0, .int 0])), (a3, .inr (8, [.ref a9, .ref a10, .int 0, .int 0])), (a10, .inl (T 0, 12, .inl (fun _ => 0))), (a1, .inr (14, [.ref a11, .int 0, .int 0])), (a11, .inr (13, [.ref a12, .int 0])), (a12, .inl (T 0, 12, .inl (fun _ => 0)))] s.heap.size = A at hD hG ⊢
  have hA : ∀ q : Nat, s.heap.size ≤ q → A q := fun q h => by rw [← hAe]; exact Or.inr h
  have hS : va_S A s.heap s.heap [] := va_S.rf
  have hl := lv_entry ([.ref a1, .ref a2, .ref a3, .int p3]) (n := 6) (Nat.le_of_ble_eq_true rfl)
  rw [lg_entry_eq]
  generalize (lg_sl ([.ref a1, .ref a2, .ref a3, .int p3]) ++ List.replicate (6 - (lg_sl ([.ref a1, .ref a2, .ref a3, .int p3])).length) Slot.unset).toArray = ls at hl ⊢
  have hl : lv_has ls 6 [(0, .ref a1), (1, .ref a2), (2, .ref a3), (3, .int p3)] := hl
  refine lv_aload_n hx hb dX9_cutAt_0 rfl (lv_at hl 0 rfl) ?_
  refine va_get (D := (dC, dI)) (ci := 14) (v := .ref a11) (C := RX9) (T := TX9) (N := 3) hx hb hts hin_X9 hown hK hP 3 rfl rfl 0 (by decide) (hts (.fieldLink RX9 12 "Nearestward$Shape" "parts" "LNearestward$Parts;") (by decide +kernel)) (fun _ h9 => h9) rfl dX9_cutAt_1 ?_
  refine lv_aload_n hx hb dX9_cutAt_4 rfl (lv_at hl 1 rfl) ?_
  have hPc := hP.sub (ws' := [(a2, .inr (10, [.ref a4, .ref a5, .ref a6, .ref a7, .ref a8, .int 0, .int 0])), (a11, .inr (13, [.ref a12, .int 0])), (a12, .inl (T 0, 12, .inl (fun _ => 0)))]) [0, 4, 5] rfl
  have hDc := hD.sub (ws' := [(a2, .inr (10, [.ref a4, .ref a5, .ref a6, .ref a7, .ref a8, .int 0, .int 0])), (a11, .inr (13, [.ref a12, .int 0])), (a12, .inl (T 0, 12, .inl (fun _ => 0)))]) [0, 4, 5] (by decide) rfl
  have hFc := va_free (wc := [(a2, .inr (10, [.ref a4, .ref a5, .ref a6, .ref a7, .ref a8, .int 0, .int 0])), (a11, .inr (13, [.ref a12, .int 0])), (a12, .inl (T 0, 12, .inl (fun _ => 0)))]) hD hS hA [0, 4, 5] rfl
  refine va_callv (va_runV (As := [.ref a2]) (rest := []) ⟨hx, hb, hml, hown, hts⟩ (xcX8_startWith l hst dC dI T a11 a2 a4 a5 a6 a7 a8 a12 s.heap.size) (cwV 1 hts gX9_cutAt_X8_startWith rfl rfl rfl (by decide +kernel) ⟨Nat.le_of_ble_eq_true rfl, Nat.le_of_ble_eq_true rfl⟩) ⟨xBlind, va_recv hK hPc (ci := 13) (q0 := 1) rfl rfl, xCall hK hG hS hPc hDc hFc⟩ rfl rfl hl.1 rfl (lv_room (Nat.le_of_ble_eq_true rfl)) dX9_cutAt_5 ⟨Nat.le_of_ble_eq_true rfl, Nat.le_of_ble_eq_true rfl⟩) hS (fun q _ h => hFc q h) hFc (fun u t H locs ht hvm hw hB hz1 hk1 hS => ?_)
  rcases hB with ⟨g_1, hP1, hD1⟩
  rw [ht] at hP1
  obtain ⟨hP, hD⟩ := va_join (wr := [(a3, .inr (8, [.ref a9, .ref a10, .int 0, .int 0])), (a10, .inl (T 0, 12, .inl (fun _ => 0))), (a1, .inr (14, [.ref a11, .int 0, .int 0]))]) (w1 := [(a2, .inr (10, [.ref a4, .ref a5, .ref a6, .ref a7, .ref a8, .int 0, .int 0])), (a11, .inr (13, [.ref a12, .int 0])), (a12, .inl (T 0, 12, .inl g_1))]) hP hD [0, 4, 5] [1, 2, 3] rfl rfl (by decide) (by decide) hk1 hFc hP1 hD1
  have hP := hP.sub (ws' := [(a2, .inr (10, [.ref a4, .ref a5, .ref a6, .ref a7, .ref a8, .int 0, .int 0])), (a3, .inr (8, [.ref a9, .ref a10, .int 0, .int 0])), (a10, .inl (T 0, 12, .inl (fun _ => 0))), (a1, .inr (14, [.ref a11, .int 0, .int 0])), (a11, .inr (13, [.ref a12, .int 0])), (a12, .inl (T 0, 12, .inl g_1))]) [3, 0, 1, 2, 4, 5] rfl
  have hD := hD.sub (ws' := [(a2, .inr (10, [.ref a4, .ref a5, .ref a6, .ref a7, .ref a8, .int 0, .int 0])), (a3, .inr (8, [.ref a9, .ref a10, .int 0, .int 0])), (a10, .inl (T 0, 12, .inl (fun _ => 0))), (a1, .inr (14, [.ref a11, .int 0, .int 0])), (a11, .inr (13, [.ref a12, .int 0])), (a12, .inl (T 0, 12, .inl g_1))]) [3, 0, 1, 2, 4, 5] (by decide) rfl
  clear hPc hDc hFc hP1 hD1 hk1 hz1 ht hvm
  refine lv_aload_n hx hb dX9_cutAt_8 rfl (lv_at hl 0 rfl) ?_
  refine lv_iconst (v := 0) hx hb dX9_cutAt_9 (by decide) ?_
  refine va_put (D := (dC, dI)) (ci := 14) (v := .int 0) (ty := .int) (C := RX9) (T := TX9) (N := 3) hx hb hts hin_X9 tyX9 tyX9_ok nmX9 hown hK hP hD hS 3 rfl rfl 1 (by decide) (hts (.fieldLink RX9 22 "Nearestward$Shape" "edges" "I") (by decide +kernel)) (fun _ h9 => h9) rfl (by decide +kernel) rfl rfl (Nat.le_of_ble_eq_true rfl) dX9_cutAt_10 (fun H locs hP hD hS => ?_)
  have hP : va_P (dC, dI) vwCl [(a2, .inr (10, [.ref a4, .ref a5, .ref a6, .ref a7, .ref a8, .int 0, .int 0])), (a3, .inr (8, [.ref a9, .ref a10, .int 0, .int 0])), (a10, .inl (T 0, 12, .inl (fun _ => 0))), (a1, .inr (14, [.ref a11, .int 0, .int 0])), (a11, .inr (13, [.ref a12, .int 0])), (a12, .inl (T 0, 12, .inl g_1))] H := hP
  have hD : va_D A [(a2, .inr (10, [.ref a4, .ref a5, .ref a6, .ref a7, .ref a8, .int 0, .int 0])), (a3, .inr (8, [.ref a9, .ref a10, .int 0, .int 0])), (a10, .inl (T 0, 12, .inl (fun _ => 0))), (a1, .inr (14, [.ref a11, .int 0, .int 0])), (a11, .inr (13, [.ref a12, .int 0])), (a12, .inl (T 0, 12, .inl g_1))] := hD
  refine lv_iconst (v := 0) hx hb dX9_cutAt_13 (by decide) ?_
  refine lv_istore (lv' := [(4, .int 0), (0, .ref a1), (1, .ref a2), (2, .ref a3), (3, .int p3)]) hx hb dX9_cutAt_14 hl (by decide) rfl (fun ls hl => ?_)
  refine xLoop (P := fun i_k_3 H locs ls => va_P (dC, dI) vwCl [(a2, .inr (10, [.ref a4, .ref a5, .ref a6, .ref a7, .ref a8, .int 0, .int 0])), (a3, .inr (8, [.ref a9, .ref a10, .int 0, .int 0])), (a10, .inl (T 0, 12, .inl (fun _ => 0))), (a1, .inr (14, [.ref a11, .int 0, .int 0])), (a11, .inr (13, [.ref a12, .int 0])), (a12, .inl (T 0, 12, .inl g_1))] H ∧ va_D A [(a2, .inr (10, [.ref a4, .ref a5, .ref a6, .ref a7, .ref a8, .int 0, .int 0])), (a3, .inr (8, [.ref a9, .ref a10, .int 0, .int 0])), (a10, .inl (T 0, 12, .inl (fun _ => 0))), (a1, .inr (14, [.ref a11, .int 0, .int 0])), (a11, .inr (13, [.ref a12, .int 0])), (a12, .inl (T 0, 12, .inl g_1))] ∧ va_S A s.heap H locs ∧ lv_has ls 6 [(4, .int (nI i_k_3)), (0, .ref a1), (1, .ref a2), (2, .ref a3), (3, .int p3)]) (N := 12) (fun i_k_3 H locs ls hi_k_3 hI ih_k_3 => ?_) (0) _ _ _ (by omega) ⟨hP, hD, hS, lv_sub hl [0, 1, 2, 3, 4] rfl⟩
  obtain ⟨hP, hD, hS, hl⟩ := hI
  refine lv_iload hx hb dX9_cutAt_16 (lv_at hl 0 rfl) ?_
  refine lv_bipush (v := 12) hx hb dX9_cutAt_18 (by decide) ?_
  have hz_5 : (nI i_k_3).toInt = ((i_k_3 : Nat) : Int) := nI_toInt (by omega)
  refine lv_icmp_ge (tgt := 94) hx hb dX9_cutAt_20 (by decide) (fun c_4 => ?_) (fun c_4 => ?_)
  · have nc_4 : 12 ≤ (nI i_k_3).toInt := (xi_le (by decide +kernel) rfl).mp c_4
    refine lv_aload_n hx hb dX9_cutAt_94 rfl (lv_at hl 1 rfl) ?_
    refine lv_iconst (v := 0) hx hb dX9_cutAt_95 (by decide) ?_
    refine va_put (D := (dC, dI)) (ci := 14) (v := .int 0) (ty := .int) (C := RX9) (T := TX9) (N := 3) hx hb hts hin_X9 tyX9 tyX9_ok nmX9 hown hK hP hD hS 3 rfl rfl 2 (by decide) (hts (.fieldLink RX9 42 "Nearestward$Shape" "filled" "I") (by decide +kernel)) (fun _ h9 => h9) rfl (by decide +kernel) rfl rfl (Nat.le_of_ble_eq_true rfl) dX9_cutAt_96 (fun H locs hP hD hS => ?_)
    have hP : va_P (dC, dI) vwCl [(a2, .inr (10, [.ref a4, .ref a5, .ref a6, .ref a7, .ref a8, .int 0, .int 0])), (a3, .inr (8, [.ref a9, .ref a10, .int 0, .int 0])), (a10, .inl (T 0, 12, .inl (fun _ => 0))), (a1, .inr (14, [.ref a11, .int 0, .int 0])), (a11, .inr (13, [.ref a12, .int 0])), (a12, .inl (T 0, 12, .inl g_1))] H := hP
    have hD : va_D A [(a2, .inr (10, [.ref a4, .ref a5, .ref a6, .ref a7, .ref a8, .int 0, .int 0])), (a3, .inr (8, [.ref a9, .ref a10, .int 0, .int 0])), (a10, .inl (T 0, 12, .inl (fun _ => 0))), (a1, .inr (14, [.ref a11, .int 0, .int 0])), (a11, .inr (13, [.ref a12, .int 0])), (a12, .inl (T 0, 12, .inl g_1))] := hD
    refine lv_iconst (v := 0) hx hb dX9_cutAt_99 (by decide) ?_
    refine lv_istore (lv' := [(4, .int 0), (0, .ref a1), (1, .ref a2), (2, .ref a3), (3, .int p3)]) hx hb dX9_cutAt_100 hl (by decide) rfl (fun ls hl => ?_)
    refine lv_iload hx hb dX9_cutAt_102 (lv_at hl 0 rfl) ?_
    refine lv_aload_n hx hb dX9_cutAt_104 rfl (lv_at hl 3 rfl) ?_
    refine va_get (D := (dC, dI)) (ci := 8) (v := .int 0) (C := RX3) (T := TX3) (N := 4) hx hb hts hin_X3 hown hK hP 1 rfl rfl 2 (by decide) (hts (.fieldLink RX9 45 "Nearestward$FatTriangles" "count" "I") (by decide +kernel)) (fun _ h9 => h9) rfl dX9_cutAt_105 ?_
    refine lv_icmp_ge (tgt := 138) hx hb dX9_cutAt_108 (by decide) (fun c_6 => ?_) (fun c_6 => absurd (by decide) c_6)
    have hP9 := hP.sub (ws' := [(a2, .inr (10, [.ref a4, .ref a5, .ref a6, .ref a7, .ref a8, .int 0, .int 0])), (a3, .inr (8, [.ref a9, .ref a10, .int 0, .int 0])), (a10, .inl (T 0, 12, .inl (fun _ => 0))), (a1, .inr (14, [.ref a11, .int 0, .int 0])), (a11, .inr (13, [.ref a12, .int 0])), (a12, .inl (T 0, 12, .inl g_1))]) [0, 1, 2, 3, 4, 5] rfl
    have hD9 := hD.sub (ws' := [(a2, .inr (10, [.ref a4, .ref a5, .ref a6, .ref a7, .ref a8, .int 0, .int 0])), (a3, .inr (8, [.ref a9, .ref a10, .int 0, .int 0])), (a10, .inl (T 0, 12, .inl (fun _ => 0))), (a1, .inr (14, [.ref a11, .int 0, .int 0])), (a11, .inr (13, [.ref a12, .int 0])), (a12, .inl (T 0, 12, .inl g_1))]) [0, 1, 2, 3, 4, 5] (by decide) rfl
    exact W.vret hx hb hr (fun t ht hW => ⟨⟨(), rfl, trivial, ⟨g_1, by rw [ht]; exact hP9, hD9⟩⟩, hS.F ht⟩) hS.2.2 dX9_cutAt_138
  · have nc_4 : ¬ (12 ≤ (nI i_k_3).toInt) := mt (xi_le (by decide +kernel) rfl).mpr c_4
    refine lv_iload hx hb dX9_cutAt_23 (lv_at hl 0 rfl) ?_
    refine lv_iconst (v := 1) hx hb dX9_cutAt_25 (by decide) ?_
    refine lv_iadd hx hb dX9_cutAt_26 ?_
    refine lv_topi (fun f_7 ef_7 => ?_)
    obtain rfl : f_7 = (nI (i_k_3 + 1)) := ef_7.trans (nI_add _ _)
    refine lv_istore (lv' := [(5, .int (nI (i_k_3 + 1))), (4, .int (nI i_k_3)), (0, .ref a1), (1, .ref a2), (2, .ref a3), (3, .int p3)]) hx hb dX9_cutAt_27 hl (by decide) rfl (fun ls hl => ?_)
    refine xLoop (P := fun i_k_8 H locs ls => va_P (dC, dI) vwCl [(a2, .inr (10, [.ref a4, .ref a5, .ref a6, .ref a7, .ref a8, .int 0, .int 0])), (a3, .inr (8, [.ref a9, .ref a10, .int 0, .int 0])), (a10, .inl (T 0, 12, .inl (fun _ => 0))), (a1, .inr (14, [.ref a11, .int 0, .int 0])), (a11, .inr (13, [.ref a12, .int 0])), (a12, .inl (T 0, 12, .inl g_1))] H ∧ va_D A [(a2, .inr (10, [.ref a4, .ref a5, .ref a6, .ref a7, .ref a8, .int 0, .int 0])), (a3, .inr (8, [.ref a9, .ref a10, .int 0, .int 0])), (a10, .inl (T 0, 12, .inl (fun _ => 0))), (a1, .inr (14, [.ref a11, .int 0, .int 0])), (a11, .inr (13, [.ref a12, .int 0])), (a12, .inl (T 0, 12, .inl g_1))] ∧ va_S A s.heap H locs ∧ lv_has ls 6 [(5, .int (nI i_k_8)), (4, .int (nI i_k_3)), (0, .ref a1), (1, .ref a2), (2, .ref a3), (3, .int p3)]) (N := 12) (fun i_k_8 H locs ls hi_k_8 hI ih_k_8 => ?_) (i_k_3 + 1) _ _ _ (by omega) ⟨hP, hD, hS, lv_sub hl [0, 1, 2, 3, 4, 5] rfl⟩
    obtain ⟨hP, hD, hS, hl⟩ := hI
    refine lv_iload hx hb dX9_cutAt_29 (lv_at hl 0 rfl) ?_
    refine lv_bipush (v := 12) hx hb dX9_cutAt_31 (by decide) ?_
    have hz_10 : (nI i_k_8).toInt = ((i_k_8 : Nat) : Int) := nI_toInt (by omega)
    refine lv_icmp_ge (tgt := 88) hx hb dX9_cutAt_33 (by decide) (fun c_9 => ?_) (fun c_9 => ?_)
    · have nc_9 : 12 ≤ (nI i_k_8).toInt := (xi_le (by decide +kernel) rfl).mp c_9
      refine lv_iinc (v := (nI (i_k_3 + 1))) (lv' := [(4, .int (nI (i_k_3 + 1))), (5, .int (nI i_k_8)), (0, .ref a1), (1, .ref a2), (2, .ref a3), (3, .int p3)]) hx hb dX9_cutAt_88 hl (k := 1) rfl (nI_1 _) (by decide) rfl (fun ls hl => ?_)
      refine lv_goto (tgt := 16) hx hb dX9_cutAt_91 (by decide) ?_
      exact ih_k_3 _ _ _ (by omega) ⟨hP, hD, hS, lv_sub hl [0, 2, 3, 4, 5] rfl⟩
    · have nc_9 : ¬ (12 ≤ (nI i_k_8).toInt) := mt (xi_le (by decide +kernel) rfl).mpr c_9
      refine lv_aload_n hx hb dX9_cutAt_36 rfl (lv_at hl 4 rfl) ?_
      refine lv_iload hx hb dX9_cutAt_37 (lv_at hl 1 rfl) ?_
      refine lv_iload hx hb dX9_cutAt_39 (lv_at hl 0 rfl) ?_
      have hPc := hP.sub (ws' := [(a3, .inr (8, [.ref a9, .ref a10, .int 0, .int 0])), (a10, .inl (T 0, 12, .inl (fun _ => 0)))]) [1, 2] rfl
      have hDc := hD.sub (ws' := [(a3, .inr (8, [.ref a9, .ref a10, .int 0, .int 0])), (a10, .inl (T 0, 12, .inl (fun _ => 0)))]) [1, 2] (by decide) rfl
      have hFc := va_free (wc := [(a3, .inr (8, [.ref a9, .ref a10, .int 0, .int 0])), (a10, .inl (T 0, 12, .inl (fun _ => 0)))]) hD hS hA [1, 2] rfl
      refine va_calli (va_runV (As := [.int (nI i_k_3), .int (nI i_k_8)]) (rest := []) ⟨hx, hb, hml, hown, hts⟩ (xcX3_isEdge l hst dC dI T a3 a9 a10 H.size i_k_3 (nI i_k_8) (by omega)) (cwV 2 hts gX9_cutAt_X3_isEdge rfl rfl rfl (by decide +kernel) ⟨Nat.le_of_ble_eq_true rfl, Nat.le_of_ble_eq_true rfl⟩) ⟨xBlind, va_recv hK hPc (ci := 8) (q0 := 0) rfl rfl, xCall hK hG hS hPc hDc hFc⟩ rfl rfl hl.1 rfl (lv_room (Nat.le_of_ble_eq_true rfl)) dX9_cutAt_41 ⟨Nat.le_of_ble_eq_true rfl, Nat.le_of_ble_eq_true rfl⟩) hS (fun q _ h => hFc q h) hFc (fun r_9 u t H locs ht hvm hw hB hz1 hk1 hS => ?_)
      subst hw
      rcases hB with ⟨hr_9, hP1, hD1⟩
      rw [ht] at hP1
      subst hr_9
      obtain ⟨hP, hD⟩ := va_join (wr := [(a2, .inr (10, [.ref a4, .ref a5, .ref a6, .ref a7, .ref a8, .int 0, .int 0])), (a1, .inr (14, [.ref a11, .int 0, .int 0])), (a11, .inr (13, [.ref a12, .int 0])), (a12, .inl (T 0, 12, .inl g_1))]) (w1 := [(a3, .inr (8, [.ref a9, .ref a10, .int 0, .int 0])), (a10, .inl (T 0, 12, .inl (fun _ => 0)))]) hP hD [1, 2] [0, 3, 4, 5] rfl rfl (by decide) (by decide) hk1 hFc hP1 hD1
      have hP := hP.sub (ws' := [(a2, .inr (10, [.ref a4, .ref a5, .ref a6, .ref a7, .ref a8, .int 0, .int 0])), (a3, .inr (8, [.ref a9, .ref a10, .int 0, .int 0])), (a10, .inl (T 0, 12, .inl (fun _ => 0))), (a1, .inr (14, [.ref a11, .int 0, .int 0])), (a11, .inr (13, [.ref a12, .int 0])), (a12, .inl (T 0, 12, .inl g_1))]) [0, 4, 5, 1, 2, 3] rfl
      have hD := hD.sub (ws' := [(a2, .inr (10, [.ref a4, .ref a5, .ref a6, .ref a7, .ref a8, .int 0, .int 0])), (a3, .inr (8, [.ref a9, .ref a10, .int 0, .int 0])), (a10, .inl (T 0, 12, .inl (fun _ => 0))), (a1, .inr (14, [.ref a11, .int 0, .int 0])), (a11, .inr (13, [.ref a12, .int 0])), (a12, .inl (T 0, 12, .inl g_1))]) [0, 4, 5, 1, 2, 3] (by decide) rfl
      clear hPc hDc hFc hP1 hD1 hk1 hz1 ht hvm
      refine lv_if_eq (tgt := 82) hx hb dX9_cutAt_44 (by decide) (fun c_12 => ?_) (fun c_12 => absurd (by decide) c_12)
      refine lv_iinc (v := (nI (i_k_8 + 1))) (lv' := [(5, .int (nI (i_k_8 + 1))), (4, .int (nI i_k_3)), (0, .ref a1), (1, .ref a2), (2, .ref a3), (3, .int p3)]) hx hb dX9_cutAt_82 hl (k := 0) rfl (nI_1 _) (by decide) rfl (fun ls hl => ?_)
      refine lv_goto (tgt := 29) hx hb dX9_cutAt_85 (by decide) ?_
      exact ih_k_8 _ _ _ (by omega) ⟨hP, hD, hS, lv_sub hl [0, 1, 2, 3, 4, 5] rfl⟩
set_option maxHeartbeats 4000000 in
set_option maxRecDepth 100000 in
theorem xcX11_countHoles (l : Launch) (hst : l.stackTraces = false) (dC : Nat → ClassId) (dI : Nat → Nat → Nat) (T : Nat → ClassId) (a1 : Nat) (a2 : Nat) (a3 : Nat) (a4 : Nat) (a5 : Nat) (a6 : Nat) (a7 : Nat) (a8 : Nat) (a9 : Nat) (a10 : Nat) (a11 : Nat) (a12 : Nat) (a13 : Nat) (a14 : Nat) (a15 : Nat) (a16 : Nat) (a18 : Nat) (a19 : Nat) (a24 : Nat) (a25 : Nat) (sz : Nat) (p1 : Int32) : vx_Met l yX11_countHoles wsX11_countHoles ({ frames := 7, cells := 1, slots := 6, locals := 104 } : Room) (va_Pc [.ref a1, .int p1] (fun U => xB dC dI T [(a1, .inr (16, [.ref a2, .ref a3, .ref a4, .ref a5, .ref a6, .ref a7, .ref a8, .ref a9, .ref a10, .ref a11])), (a2, .inr (10, [.ref a12, .ref a13, .ref a14, .ref a15, .ref a16, .int 0, .int 0])), (a4, .inr (8, [.ref a18, .ref a19, .int 0, .int (-1)])), (a19, .inl (T 0, 12, .inl (fun _ => 0))), (a7, .inr (14, [.ref a24, .int 0, .int 0])), (a24, .inr (13, [.ref a25, .int 0])), (a25, .inl (T 0, 12, .inl (fun _ => 0)))] sz U)) (va_Qi (fun (r u : Int32) => r = u) (fun (u : Int32) (t : State) => ((¬ (p1.toInt < 0)) ∧ (p1.toInt ≤ ((99999) : Int32).toInt)) ∧ 0 = u ∧ xE dC dI [] (va_A [(a1, .inr (16, [.ref a2, .ref a3, .ref a4, .ref a5, .ref a6, .ref a7, .ref a8, .ref a9, .ref a10, .ref a11])), (a2, .inr (10, [.ref a12, .ref a13, .ref a14, .ref a15, .ref a16, .int 0, .int 0])), (a4, .inr (8, [.ref a18, .ref a19, .int 0, .int (-1)])), (a19, .inl (T 0, 12, .inl (fun _ => 0))), (a7, .inr (14, [.ref a24, .int 0, .int 0])), (a24, .inr (13, [.ref a25, .int 0])), (a25, .inl (T 0, 12, .inl (fun _ => 0)))] sz) t) (va_A [(a1, .inr (16, [.ref a2, .ref a3, .ref a4, .ref a5, .ref a6, .ref a7, .ref a8, .ref a9, .ref a10, .ref a11])), (a2, .inr (10, [.ref a12, .ref a13, .ref a14, .ref a15, .ref a16, .int 0, .int 0])), (a4, .inr (8, [.ref a18, .ref a19, .int 0, .int (-1)])), (a19, .inl (T 0, 12, .inl (fun _ => 0))), (a7, .inr (14, [.ref a24, .int 0, .int 0])), (a24, .inr (13, [.ref a25, .int 0])), (a25, .inl (T 0, 12, .inl (fun _ => 0)))] sz)) (vx_X (fun _ : Unit => True) (fun (E : String) (_ : Unit) (t : State) => ((p1.toInt < 0) ∨ ((¬ (p1.toInt < 0)) ∧ (¬ (p1.toInt ≤ ((99999) : Int32).toInt)))) ∧ E = "java/lang/IllegalArgumentException" ∧ xE dC dI [] (va_A [(a1, .inr (16, [.ref a2, .ref a3, .ref a4, .ref a5, .ref a6, .ref a7, .ref a8, .ref a9, .ref a10, .ref a11])), (a2, .inr (10, [.ref a12, .ref a13, .ref a14, .ref a15, .ref a16, .int 0, .int 0])), (a4, .inr (8, [.ref a18, .ref a19, .int 0, .int (-1)])), (a19, .inl (T 0, 12, .inl (fun _ => 0))), (a7, .inr (14, [.ref a24, .int 0, .int 0])), (a24, .inr (13, [.ref a25, .int 0])), (a25, .inl (T 0, 12, .inl (fun _ => 0)))] sz) t) (va_A [(a1, .inr (16, [.ref a2, .ref a3, .ref a4, .ref a5, .ref a6, .ref a7, .ref a8, .ref a9, .ref a10, .ref a11])), (a2, .inr (10, [.ref a12, .ref a13, .ref a14, .ref a15, .ref a16, .int 0, .int 0])), (a4, .inr (8, [.ref a18, .ref a19, .int 0, .int (-1)])), (a19, .inl (T 0, 12, .inl (fun _ => 0))), (a7, .inr (14, [.ref a24, .int 0, .int 0])), (a24, .inr (13, [.ref a25, .int 0])), (a25, .inl (T 0, 12, .inl (fun _ => 0)))] sz)) 1 6 (va_A [(a1, .inr (16, [.ref a2, .ref a3, .ref a4, .ref a5, .ref a6, .ref a7, .ref a8, .ref a9, .ref a10, .ref a11])), (a2, .inr (10, [.ref a12, .ref a13, .ref a14, .ref a15, .ref a16, .int 0, .int 0])), (a4, .inr (8, [.ref a18, .ref a19, .int 0, .int (-1)])), (a19, .inl (T 0, 12, .inl (fun _ => 0))), (a7, .inr (14, [.ref a24, .int 0, .int 0])), (a24, .inr (13, [.ref a25, .int 0])), (a25, .inl (T 0, 12, .inl (fun _ => 0)))] sz) := by
  refine vx_ofW (cc := cX11_countHoles) (maxL := 2) (ret := (some .int)) (by decide +kernel) rfl ?_
  intro p e s m args below meth c s₁ B hml hex hv
  obtain ⟨rfl, hsz, hP, hK, hD0, hG⟩ := hv
  have hx := B.exec
  have hb := B.bytes
  have hr := B.returns
  have hts := atoms_spec (ws := wsX11_countHoles) B.pre
  have hown : s.vm.findClass RX11 = some m.cls := findClass_of_methodNamed B.named
  have hlocks := B.notSynchronized
  have hin_X11 : ∀ w ∈ wsX110, w ∈ wsX11_countHoles := by decide +kernel
  have hin_X8 : ∀ w ∈ wsX80, w ∈ wsX11_countHoles := by decide +kernel
  have hin_X9 : ∀ w ∈ wsX90, w ∈ wsX11_countHoles := by decide +kernel
  subst hsz
  have hD := hD0.self (sz := s.heap.size)
  generalize hAe : va_A [(a1, .inr (16, [.ref a2, .ref a3, .ref a4, .ref a5, .ref a6, .ref a7, .ref a8, .ref a9, .ref a10, .ref a11])), (a2, .inr (10, [.ref a12, .ref a13, .ref a14, .ref a15, .ref a16, .int 0, .int 0])), (a4, .inr (8, [.ref a18, .ref a19, .int 0, .int (-1)])), (a19, .inl (T 0, 12, .inl (fun _ => 0))), (a7, .inr (14, [.ref a24, .int 0, .int 0])), (a24, .inr (13, [.ref a25, .int 0])), (a25, .inl (T 0, 12, .inl (fun _ => 0)))] s.heap.size = A at hD hG ⊢
  have hA : ∀ q : Nat, s.heap.size ≤ q → A q := fun q h => by rw [← hAe]; exact Or.inr h
  have hS : va_S A s.heap s.heap [] := va_S.rf
  have hl := lv_entry ([.ref a1, .int p1]) (n := 2) (Nat.le_of_ble_eq_true rfl)
  rw [lg_entry_eq]
  generalize (lg_sl ([.ref a1, .int p1]) ++ List.replicate (2 - (lg_sl ([.ref a1, .int p1])).length) Slot.unset).toArray = ls at hl ⊢
  have hl : lv_has ls 2 [(0, .ref a1), (1, .int p1)] := hl
  refine lv_iload_n hx hb dX11_countHoles_0 rfl (lv_at hl 1 rfl) ?_
  refine lv_iconst (v := 0) hx hb dX11_countHoles_1 (by decide) ?_
  refine lv_ldc (v := 99999) hx hb hown (hts (.constant RX11 252 99999) (by decide +kernel)) dX11_countHoles_2 ?_
  have hPc := hP.sub (ws' := []) [] rfl
  have hDc := hD.sub (ws' := []) [] (by decide) rfl
  have hFc := va_free (wc := []) hD hS hA [] rfl
  refine vx_callv (vx_runS (As := [.int p1, .int 0, .int 99999]) (rest := []) ⟨hx, hb, hml, hown, hts⟩ (xcX11_needRange_v3 l hst dC dI T s.heap.size p1 99999) (cwS 3 hts gX11_countHoles_X11_needRange rfl rfl rfl (by decide +kernel) ⟨Nat.le_of_ble_eq_true rfl, Nat.le_of_ble_eq_true rfl⟩) ⟨xBlind, xCall hK hG hS hPc hDc hFc⟩ rfl rfl hl.1 rfl (lv_room (Nat.le_of_ble_eq_true rfl)) dX11_countHoles_4 ⟨Nat.le_of_ble_eq_true rfl, Nat.le_of_ble_eq_true rfl⟩) hS (fun q _ h => hFc q h) hFc (fun q _ h => hFc q h) (fun E ce q9 u t H locs ht hvm hw hB hz1 hk1 hS hce hcv hcl => ?_) (fun u t H locs ht hvm hw hB hz1 hk1 hS => ?_)
  · rcases hB with ⟨c_1, hE, hP1, hD1⟩
    have hz_2 : ((99999) : Int32).toInt = 99999 := by decide +kernel
    subst hE
    rw [ht] at hP1
    obtain ⟨hP, hD⟩ := va_join (wr := [(a1, .inr (16, [.ref a2, .ref a3, .ref a4, .ref a5, .ref a6, .ref a7, .ref a8, .ref a9, .ref a10, .ref a11])), (a2, .inr (10, [.ref a12, .ref a13, .ref a14, .ref a15, .ref a16, .int 0, .int 0])), (a4, .inr (8, [.ref a18, .ref a19, .int 0, .int (-1)])), (a19, .inl (T 0, 12, .inl (fun _ => 0))), (a7, .inr (14, [.ref a24, .int 0, .int 0])), (a24, .inr (13, [.ref a25, .int 0])), (a25, .inl (T 0, 12, .inl (fun _ => 0)))]) (w1 := []) hP hD [] [0, 1, 2, 3, 4, 5, 6] rfl rfl (by decide) (by decide) hk1 hFc hP1 hD1
    have hP : va_P (dC, dI) vwCl [(a1, .inr (16, [.ref a2, .ref a3, .ref a4, .ref a5, .ref a6, .ref a7, .ref a8, .ref a9, .ref a10, .ref a11])), (a2, .inr (10, [.ref a12, .ref a13, .ref a14, .ref a15, .ref a16, .int 0, .int 0])), (a4, .inr (8, [.ref a18, .ref a19, .int 0, .int (-1)])), (a19, .inl (T 0, 12, .inl (fun _ => 0))), (a7, .inr (14, [.ref a24, .int 0, .int 0])), (a24, .inr (13, [.ref a25, .int 0])), (a25, .inl (T 0, 12, .inl (fun _ => 0)))] H := hP
    have hD : va_D A [(a1, .inr (16, [.ref a2, .ref a3, .ref a4, .ref a5, .ref a6, .ref a7, .ref a8, .ref a9, .ref a10, .ref a11])), (a2, .inr (10, [.ref a12, .ref a13, .ref a14, .ref a15, .ref a16, .int 0, .int 0])), (a4, .inr (8, [.ref a18, .ref a19, .int 0, .int (-1)])), (a19, .inl (T 0, 12, .inl (fun _ => 0))), (a7, .inr (14, [.ref a24, .int 0, .int 0])), (a24, .inr (13, [.ref a25, .int 0])), (a25, .inl (T 0, 12, .inl (fun _ => 0)))] := hD
    clear hPc hDc hFc hP1 hD1 hk1 hz1 ht hvm
    have hP9 := hP.sub (ws' := []) [] rfl
    have hD9 := hD.sub (ws' := []) [] (by decide) rfl
    exact vx_out (fun x hx => absurd (hex x hx) id) hlocks hce hcv hcl (fun t ht _ => ⟨(), trivial, ⟨c_1, rfl, by rw [ht]; exact hP9, hD9⟩, hS.F ht⟩) hS.2.2 (Nat.le_of_ble_eq_true rfl) (Nat.le_of_ble_eq_true rfl)
  · rcases hB with ⟨c_3, hP1, hD1⟩
    have hz_4 : ((99999) : Int32).toInt = 99999 := by decide +kernel
    rw [ht] at hP1
    obtain ⟨hP, hD⟩ := va_join (wr := [(a1, .inr (16, [.ref a2, .ref a3, .ref a4, .ref a5, .ref a6, .ref a7, .ref a8, .ref a9, .ref a10, .ref a11])), (a2, .inr (10, [.ref a12, .ref a13, .ref a14, .ref a15, .ref a16, .int 0, .int 0])), (a4, .inr (8, [.ref a18, .ref a19, .int 0, .int (-1)])), (a19, .inl (T 0, 12, .inl (fun _ => 0))), (a7, .inr (14, [.ref a24, .int 0, .int 0])), (a24, .inr (13, [.ref a25, .int 0])), (a25, .inl (T 0, 12, .inl (fun _ => 0)))]) (w1 := []) hP hD [] [0, 1, 2, 3, 4, 5, 6] rfl rfl (by decide) (by decide) hk1 hFc hP1 hD1
    have hP : va_P (dC, dI) vwCl [(a1, .inr (16, [.ref a2, .ref a3, .ref a4, .ref a5, .ref a6, .ref a7, .ref a8, .ref a9, .ref a10, .ref a11])), (a2, .inr (10, [.ref a12, .ref a13, .ref a14, .ref a15, .ref a16, .int 0, .int 0])), (a4, .inr (8, [.ref a18, .ref a19, .int 0, .int (-1)])), (a19, .inl (T 0, 12, .inl (fun _ => 0))), (a7, .inr (14, [.ref a24, .int 0, .int 0])), (a24, .inr (13, [.ref a25, .int 0])), (a25, .inl (T 0, 12, .inl (fun _ => 0)))] H := hP
    have hD : va_D A [(a1, .inr (16, [.ref a2, .ref a3, .ref a4, .ref a5, .ref a6, .ref a7, .ref a8, .ref a9, .ref a10, .ref a11])), (a2, .inr (10, [.ref a12, .ref a13, .ref a14, .ref a15, .ref a16, .int 0, .int 0])), (a4, .inr (8, [.ref a18, .ref a19, .int 0, .int (-1)])), (a19, .inl (T 0, 12, .inl (fun _ => 0))), (a7, .inr (14, [.ref a24, .int 0, .int 0])), (a24, .inr (13, [.ref a25, .int 0])), (a25, .inl (T 0, 12, .inl (fun _ => 0)))] := hD
    clear hPc hDc hFc hP1 hD1 hk1 hz1 ht hvm
    refine lv_aload_n hx hb dX11_countHoles_7 rfl (lv_at hl 0 rfl) ?_
    refine va_get (D := (dC, dI)) (ci := 16) (v := .ref a4) (C := RX11) (T := TX11) (N := 10) hx hb hts hin_X11 hown hK hP 0 rfl rfl 2 (by decide) (hts (.fieldLink RX11 26 "Nearestward" "triangles" "LNearestward$FatTriangles;") (by decide +kernel)) (fun _ h9 => h9) rfl dX11_countHoles_8 ?_
    refine lv_aload_n hx hb dX11_countHoles_11 rfl (lv_at hl 0 rfl) ?_
    refine va_get (D := (dC, dI)) (ci := 16) (v := .ref a2) (C := RX11) (T := TX11) (N := 10) hx hb hts hin_X11 hown hK hP 0 rfl rfl 0 (by decide) (hts (.fieldLink RX11 12 "Nearestward" "ground" "LNearestward$Ground;") (by decide +kernel)) (fun _ h9 => h9) rfl dX11_countHoles_12 ?_
    have hPc := hP.sub (ws' := [(a2, .inr (10, [.ref a12, .ref a13, .ref a14, .ref a15, .ref a16, .int 0, .int 0])), (a4, .inr (8, [.ref a18, .ref a19, .int 0, .int (-1)])), (a19, .inl (T 0, 12, .inl (fun _ => 0)))]) [1, 2, 3] rfl
    have hDc := hD.sub (ws' := [(a2, .inr (10, [.ref a12, .ref a13, .ref a14, .ref a15, .ref a16, .int 0, .int 0])), (a4, .inr (8, [.ref a18, .ref a19, .int 0, .int (-1)])), (a19, .inl (T 0, 12, .inl (fun _ => 0)))]) [1, 2, 3] (by decide) rfl
    have hFc := va_free (wc := [(a2, .inr (10, [.ref a12, .ref a13, .ref a14, .ref a15, .ref a16, .int 0, .int 0])), (a4, .inr (8, [.ref a18, .ref a19, .int 0, .int (-1)])), (a19, .inl (T 0, 12, .inl (fun _ => 0)))]) hD hS hA [1, 2, 3] rfl
    refine va_callv (va_runV (As := [.ref a2]) (rest := []) ⟨hx, hb, hml, hown, hts⟩ (xcX3_findIn l hst dC dI T a4 a2 a12 a13 a14 a15 a16 a18 a19 H.size) (cwV 1 hts gX11_countHoles_X3_findIn rfl rfl rfl (by decide +kernel) ⟨Nat.le_of_ble_eq_true rfl, Nat.le_of_ble_eq_true rfl⟩) ⟨xBlind, va_recv hK hPc (ci := 8) (q0 := 1) rfl rfl, xCall hK hG hS hPc hDc hFc⟩ rfl rfl hl.1 rfl (lv_room (Nat.le_of_ble_eq_true rfl)) dX11_countHoles_15 ⟨Nat.le_of_ble_eq_true rfl, Nat.le_of_ble_eq_true rfl⟩) hS (fun q _ h => hFc q h) hFc (fun u t H locs ht hvm hw hB hz1 hk1 hS => ?_)
    rcases hB with ⟨hP1, hD1⟩
    rw [ht] at hP1
    obtain ⟨hP, hD⟩ := va_join (wr := [(a1, .inr (16, [.ref a2, .ref a3, .ref a4, .ref a5, .ref a6, .ref a7, .ref a8, .ref a9, .ref a10, .ref a11])), (a7, .inr (14, [.ref a24, .int 0, .int 0])), (a24, .inr (13, [.ref a25, .int 0])), (a25, .inl (T 0, 12, .inl (fun _ => 0)))]) (w1 := [(a2, .inr (10, [.ref a12, .ref a13, .ref a14, .ref a15, .ref a16, .int 0, .int 0])), (a4, .inr (8, [.ref a18, .ref a19, .int 0, .int 0])), (a19, .inl (T 0, 12, .inl (fun _ => 0)))]) hP hD [1, 2, 3] [0, 4, 5, 6] rfl rfl (by decide) (by decide) hk1 hFc hP1 hD1
    have hP := hP.sub (ws' := [(a1, .inr (16, [.ref a2, .ref a3, .ref a4, .ref a5, .ref a6, .ref a7, .ref a8, .ref a9, .ref a10, .ref a11])), (a2, .inr (10, [.ref a12, .ref a13, .ref a14, .ref a15, .ref a16, .int 0, .int 0])), (a4, .inr (8, [.ref a18, .ref a19, .int 0, .int 0])), (a19, .inl (T 0, 12, .inl (fun _ => 0))), (a7, .inr (14, [.ref a24, .int 0, .int 0])), (a24, .inr (13, [.ref a25, .int 0])), (a25, .inl (T 0, 12, .inl (fun _ => 0)))]) [0, 4, 5, 6, 1, 2, 3] rfl
    have hD := hD.sub (ws' := [(a1, .inr (16, [.ref a2, .ref a3, .ref a4, .ref a5, .ref a6, .ref a7, .ref a8, .ref a9, .ref a10, .ref a11])), (a2, .inr (10, [.ref a12, .ref a13, .ref a14, .ref a15, .ref a16, .int 0, .int 0])), (a4, .inr (8, [.ref a18, .ref a19, .int 0, .int 0])), (a19, .inl (T 0, 12, .inl (fun _ => 0))), (a7, .inr (14, [.ref a24, .int 0, .int 0])), (a24, .inr (13, [.ref a25, .int 0])), (a25, .inl (T 0, 12, .inl (fun _ => 0)))]) [0, 4, 5, 6, 1, 2, 3] (by decide) rfl
    clear hPc hDc hFc hP1 hD1 hk1 hz1 ht hvm
    refine lv_aload_n hx hb dX11_countHoles_18 rfl (lv_at hl 0 rfl) ?_
    refine va_get (D := (dC, dI)) (ci := 16) (v := .ref a7) (C := RX11) (T := TX11) (N := 10) hx hb hts hin_X11 hown hK hP 0 rfl rfl 5 (by decide) (hts (.fieldLink RX11 47 "Nearestward" "shape" "LNearestward$Shape;") (by decide +kernel)) (fun _ h9 => h9) rfl dX11_countHoles_19 ?_
    refine lv_aload_n hx hb dX11_countHoles_22 rfl (lv_at hl 0 rfl) ?_
    refine va_get (D := (dC, dI)) (ci := 16) (v := .ref a2) (C := RX11) (T := TX11) (N := 10) hx hb hts hin_X11 hown hK hP 0 rfl rfl 0 (by decide) (hts (.fieldLink RX11 12 "Nearestward" "ground" "LNearestward$Ground;") (by decide +kernel)) (fun _ h9 => h9) rfl dX11_countHoles_23 ?_
    refine lv_aload_n hx hb dX11_countHoles_26 rfl (lv_at hl 0 rfl) ?_
    refine va_get (D := (dC, dI)) (ci := 16) (v := .ref a4) (C := RX11) (T := TX11) (N := 10) hx hb hts hin_X11 hown hK hP 0 rfl rfl 2 (by decide) (hts (.fieldLink RX11 26 "Nearestward" "triangles" "LNearestward$FatTriangles;") (by decide +kernel)) (fun _ h9 => h9) rfl dX11_countHoles_27 ?_
    refine lv_iload_n hx hb dX11_countHoles_30 rfl (lv_at hl 1 rfl) ?_
    have hPc := hP.sub (ws' := [(a2, .inr (10, [.ref a12, .ref a13, .ref a14, .ref a15, .ref a16, .int 0, .int 0])), (a4, .inr (8, [.ref a18, .ref a19, .int 0, .int 0])), (a19, .inl (T 0, 12, .inl (fun _ => 0))), (a7, .inr (14, [.ref a24, .int 0, .int 0])), (a24, .inr (13, [.ref a25, .int 0])), (a25, .inl (T 0, 12, .inl (fun _ => 0)))]) [1, 2, 3, 4, 5, 6] rfl
    have hDc := hD.sub (ws' := [(a2, .inr (10, [.ref a12, .ref a13, .ref a14, .ref a15, .ref a16, .int 0, .int 0])), (a4, .inr (8, [.ref a18, .ref a19, .int 0, .int 0])), (a19, .inl (T 0, 12, .inl (fun _ => 0))), (a7, .inr (14, [.ref a24, .int 0, .int 0])), (a24, .inr (13, [.ref a25, .int 0])), (a25, .inl (T 0, 12, .inl (fun _ => 0)))]) [1, 2, 3, 4, 5, 6] (by decide) rfl
    have hFc := va_free (wc := [(a2, .inr (10, [.ref a12, .ref a13, .ref a14, .ref a15, .ref a16, .int 0, .int 0])), (a4, .inr (8, [.ref a18, .ref a19, .int 0, .int 0])), (a19, .inl (T 0, 12, .inl (fun _ => 0))), (a7, .inr (14, [.ref a24, .int 0, .int 0])), (a24, .inr (13, [.ref a25, .int 0])), (a25, .inl (T 0, 12, .inl (fun _ => 0)))]) hD hS hA [1, 2, 3, 4, 5, 6] rfl
    refine va_callv (va_runV (As := [.ref a2, .ref a4, .int p1]) (rest := []) ⟨hx, hb, hml, hown, hts⟩ (xcX9_cutAt l hst dC dI T a7 a2 a4 a12 a13 a14 a15 a16 a18 a19 a24 a25 H.size p1) (cwV 3 hts gX11_countHoles_X9_cutAt rfl rfl rfl (by decide +kernel) ⟨Nat.le_of_ble_eq_true rfl, Nat.le_of_ble_eq_true rfl⟩) ⟨xBlind, va_recv hK hPc (ci := 14) (q0 := 3) rfl rfl, xCall hK hG hS hPc hDc hFc⟩ rfl rfl hl.1 rfl (lv_room (Nat.le_of_ble_eq_true rfl)) dX11_countHoles_31 ⟨Nat.le_of_ble_eq_true rfl, Nat.le_of_ble_eq_true rfl⟩) hS (fun q _ h => hFc q h) hFc (fun u t H locs ht hvm hw hB hz1 hk1 hS => ?_)
    rcases hB with ⟨g_6, hP1, hD1⟩
    rw [ht] at hP1
    obtain ⟨hP, hD⟩ := va_join (wr := [(a1, .inr (16, [.ref a2, .ref a3, .ref a4, .ref a5, .ref a6, .ref a7, .ref a8, .ref a9, .ref a10, .ref a11]))]) (w1 := [(a2, .inr (10, [.ref a12, .ref a13, .ref a14, .ref a15, .ref a16, .int 0, .int 0])), (a4, .inr (8, [.ref a18, .ref a19, .int 0, .int 0])), (a19, .inl (T 0, 12, .inl (fun _ => 0))), (a7, .inr (14, [.ref a24, .int 0, .int 0])), (a24, .inr (13, [.ref a25, .int 0])), (a25, .inl (T 0, 12, .inl g_6))]) hP hD [1, 2, 3, 4, 5, 6] [0] rfl rfl (by decide) (by decide) hk1 hFc hP1 hD1
    have hP : va_P (dC, dI) vwCl [(a1, .inr (16, [.ref a2, .ref a3, .ref a4, .ref a5, .ref a6, .ref a7, .ref a8, .ref a9, .ref a10, .ref a11])), (a2, .inr (10, [.ref a12, .ref a13, .ref a14, .ref a15, .ref a16, .int 0, .int 0])), (a4, .inr (8, [.ref a18, .ref a19, .int 0, .int 0])), (a19, .inl (T 0, 12, .inl (fun _ => 0))), (a7, .inr (14, [.ref a24, .int 0, .int 0])), (a24, .inr (13, [.ref a25, .int 0])), (a25, .inl (T 0, 12, .inl g_6))] H := hP
    have hD : va_D A [(a1, .inr (16, [.ref a2, .ref a3, .ref a4, .ref a5, .ref a6, .ref a7, .ref a8, .ref a9, .ref a10, .ref a11])), (a2, .inr (10, [.ref a12, .ref a13, .ref a14, .ref a15, .ref a16, .int 0, .int 0])), (a4, .inr (8, [.ref a18, .ref a19, .int 0, .int 0])), (a19, .inl (T 0, 12, .inl (fun _ => 0))), (a7, .inr (14, [.ref a24, .int 0, .int 0])), (a24, .inr (13, [.ref a25, .int 0])), (a25, .inl (T 0, 12, .inl g_6))] := hD
    clear hPc hDc hFc hP1 hD1 hk1 hz1 ht hvm
    refine lv_aload_n hx hb dX11_countHoles_34 rfl (lv_at hl 0 rfl) ?_
    refine va_get (D := (dC, dI)) (ci := 16) (v := .ref a7) (C := RX11) (T := TX11) (N := 10) hx hb hts hin_X11 hown hK hP 0 rfl rfl 5 (by decide) (hts (.fieldLink RX11 47 "Nearestward" "shape" "LNearestward$Shape;") (by decide +kernel)) (fun _ h9 => h9) rfl dX11_countHoles_35 ?_
    refine va_get (D := (dC, dI)) (ci := 14) (v := .int 0) (C := RX9) (T := TX9) (N := 3) hx hb hts hin_X9 hown hK hP 4 rfl rfl 1 (by decide) (hts (.fieldLink RX11 264 "Nearestward$Shape" "edges" "I") (by decide +kernel)) (fun _ h9 => h9) rfl dX11_countHoles_38 ?_
    refine lv_aload_n hx hb dX11_countHoles_41 rfl (lv_at hl 0 rfl) ?_
    refine va_get (D := (dC, dI)) (ci := 16) (v := .ref a2) (C := RX11) (T := TX11) (N := 10) hx hb hts hin_X11 hown hK hP 0 rfl rfl 0 (by decide) (hts (.fieldLink RX11 12 "Nearestward" "ground" "LNearestward$Ground;") (by decide +kernel)) (fun _ h9 => h9) rfl dX11_countHoles_42 ?_
    have hPc := hP.sub (ws' := [(a2, .inr (10, [.ref a12, .ref a13, .ref a14, .ref a15, .ref a16, .int 0, .int 0]))]) [1] rfl
    have hDc := hD.sub (ws' := [(a2, .inr (10, [.ref a12, .ref a13, .ref a14, .ref a15, .ref a16, .int 0, .int 0]))]) [1] (by decide) rfl
    have hFc := va_free (wc := [(a2, .inr (10, [.ref a12, .ref a13, .ref a14, .ref a15, .ref a16, .int 0, .int 0]))]) hD hS hA [1] rfl
    refine va_calli (va_runV (As := []) (rest := [.int 0]) ⟨hx, hb, hml, hown, hts⟩ (xcX5_count l hst dC dI T a2 a12 a13 a14 a15 a16 H.size) (cwV 0 hts gX11_countHoles_X5_count rfl rfl rfl (by decide +kernel) ⟨Nat.le_of_ble_eq_true rfl, Nat.le_of_ble_eq_true rfl⟩) ⟨xBlind, va_recv hK hPc (ci := 10) (q0 := 0) rfl rfl, xCall hK hG hS hPc hDc hFc⟩ rfl rfl hl.1 rfl (lv_room (Nat.le_of_ble_eq_true rfl)) dX11_countHoles_45 ⟨Nat.le_of_ble_eq_true rfl, Nat.le_of_ble_eq_true rfl⟩) hS (fun q _ h => hFc q h) hFc (fun r_9 u t H locs ht hvm hw hB hz1 hk1 hS => ?_)
    subst hw
    rcases hB with ⟨hr_9, hP1, hD1⟩
    rw [ht] at hP1
    subst hr_9
    obtain ⟨hP, hD⟩ := va_join (wr := [(a1, .inr (16, [.ref a2, .ref a3, .ref a4, .ref a5, .ref a6, .ref a7, .ref a8, .ref a9, .ref a10, .ref a11])), (a4, .inr (8, [.ref a18, .ref a19, .int 0, .int 0])), (a19, .inl (T 0, 12, .inl (fun _ => 0))), (a7, .inr (14, [.ref a24, .int 0, .int 0])), (a24, .inr (13, [.ref a25, .int 0])), (a25, .inl (T 0, 12, .inl g_6))]) (w1 := [(a2, .inr (10, [.ref a12, .ref a13, .ref a14, .ref a15, .ref a16, .int 0, .int 0]))]) hP hD [1] [0, 2, 3, 4, 5, 6] rfl rfl (by decide) (by decide) hk1 hFc hP1 hD1
    have hP := hP.sub (ws' := [(a1, .inr (16, [.ref a2, .ref a3, .ref a4, .ref a5, .ref a6, .ref a7, .ref a8, .ref a9, .ref a10, .ref a11])), (a2, .inr (10, [.ref a12, .ref a13, .ref a14, .ref a15, .ref a16, .int 0, .int 0])), (a4, .inr (8, [.ref a18, .ref a19, .int 0, .int 0])), (a19, .inl (T 0, 12, .inl (fun _ => 0))), (a7, .inr (14, [.ref a24, .int 0, .int 0])), (a24, .inr (13, [.ref a25, .int 0])), (a25, .inl (T 0, 12, .inl g_6))]) [0, 6, 1, 2, 3, 4, 5] rfl
    have hD := hD.sub (ws' := [(a1, .inr (16, [.ref a2, .ref a3, .ref a4, .ref a5, .ref a6, .ref a7, .ref a8, .ref a9, .ref a10, .ref a11])), (a2, .inr (10, [.ref a12, .ref a13, .ref a14, .ref a15, .ref a16, .int 0, .int 0])), (a4, .inr (8, [.ref a18, .ref a19, .int 0, .int 0])), (a19, .inl (T 0, 12, .inl (fun _ => 0))), (a7, .inr (14, [.ref a24, .int 0, .int 0])), (a24, .inr (13, [.ref a25, .int 0])), (a25, .inl (T 0, 12, .inl g_6))]) [0, 6, 1, 2, 3, 4, 5] (by decide) rfl
    clear hPc hDc hFc hP1 hD1 hk1 hz1 ht hvm
    refine lv_isub hx hb dX11_countHoles_48 ?_
    refine lv_topi (fun f_9 ef_9 => ?_)
    obtain rfl : f_9 = 0 := ef_9.trans (by decide)
    refine lv_aload_n hx hb dX11_countHoles_49 rfl (lv_at hl 0 rfl) ?_
    refine va_get (D := (dC, dI)) (ci := 16) (v := .ref a7) (C := RX11) (T := TX11) (N := 10) hx hb hts hin_X11 hown hK hP 0 rfl rfl 5 (by decide) (hts (.fieldLink RX11 47 "Nearestward" "shape" "LNearestward$Shape;") (by decide +kernel)) (fun _ h9 => h9) rfl dX11_countHoles_50 ?_
    refine va_get (D := (dC, dI)) (ci := 14) (v := .ref a24) (C := RX9) (T := TX9) (N := 3) hx hb hts hin_X9 hown hK hP 4 rfl rfl 0 (by decide) (hts (.fieldLink RX11 257 "Nearestward$Shape" "parts" "LNearestward$Parts;") (by decide +kernel)) (fun _ h9 => h9) rfl dX11_countHoles_53 ?_
    refine va_get (D := (dC, dI)) (ci := 13) (v := .int 0) (C := RX8) (T := TX8) (N := 2) hx hb hts hin_X8 hown hK hP 5 rfl rfl 1 (by decide) (hts (.fieldLink RX11 261 "Nearestward$Parts" "count" "I") (by decide +kernel)) (fun _ h9 => h9) rfl dX11_countHoles_56 ?_
    refine lv_iadd hx hb dX11_countHoles_59 ?_
    refine lv_topi (fun f_10 ef_10 => ?_)
    obtain rfl : f_10 = 0 := ef_10.trans (by decide)
    refine lv_aload_n hx hb dX11_countHoles_60 rfl (lv_at hl 0 rfl) ?_
    refine va_get (D := (dC, dI)) (ci := 16) (v := .ref a7) (C := RX11) (T := TX11) (N := 10) hx hb hts hin_X11 hown hK hP 0 rfl rfl 5 (by decide) (hts (.fieldLink RX11 47 "Nearestward" "shape" "LNearestward$Shape;") (by decide +kernel)) (fun _ h9 => h9) rfl dX11_countHoles_61 ?_
    refine va_get (D := (dC, dI)) (ci := 14) (v := .int 0) (C := RX9) (T := TX9) (N := 3) hx hb hts hin_X9 hown hK hP 4 rfl rfl 2 (by decide) (hts (.fieldLink RX11 267 "Nearestward$Shape" "filled" "I") (by decide +kernel)) (fun _ h9 => h9) rfl dX11_countHoles_64 ?_
    refine lv_isub hx hb dX11_countHoles_67 ?_
    refine lv_topi (fun f_11 ef_11 => ?_)
    obtain rfl : f_11 = 0 := ef_11.trans (by decide)
    refine vx_ret ?_
    have hP9 := hP.sub (ws' := []) [] rfl
    have hD9 := hD.sub (ws' := []) [] (by decide) rfl
    exact W.iret (v := 0) hx hb hr (fun t ht hW => ⟨⟨_, _, rfl, rfl, ⟨c_3, rfl, by rw [ht]; exact hP9, hD9⟩⟩, hS.F ht⟩) hS.2.2 dX11_countHoles_68
set_option maxHeartbeats 4000000 in
set_option maxRecDepth 100000 in
theorem xcL_countHoles (l : Launch) (hst : l.stackTraces = false) (dC : Nat → ClassId) (dI : Nat → Nat → Nat) (T : Nat → ClassId) (a1 : Nat) (a2 : Nat) (a3 : Nat) (a4 : Nat) (a5 : Nat) (a6 : Nat) (a7 : Nat) (a8 : Nat) (a9 : Nat) (a10 : Nat) (a11 : Nat) (a12 : Nat) (a13 : Nat) (a14 : Nat) (a15 : Nat) (a16 : Nat) (a17 : Nat) (a19 : Nat) (a20 : Nat) (a25 : Nat) (a26 : Nat) (sz : Nat) (p1 : Int32) : Met l yL_countHoles wsL_countHoles ({ frames := 8, cells := 1, slots := 6, locals := 125 } : Room) (va_Pc [.ref a1, .int p1, .ref a2] (fun U => xB dC dI T [(a1, .inr (16, [.ref a3, .ref a4, .ref a5, .ref a6, .ref a7, .ref a8, .ref a9, .ref a10, .ref a11, .ref a12])), (a3, .inr (10, [.ref a13, .ref a14, .ref a15, .ref a16, .ref a17, .int 0, .int 0])), (a5, .inr (8, [.ref a19, .ref a20, .int 0, .int (-1)])), (a20, .inl (T 0, 12, .inl (fun _ => 0))), (a8, .inr (14, [.ref a25, .int 0, .int 0])), (a25, .inr (13, [.ref a26, .int 0])), (a26, .inl (T 0, 12, .inl (fun _ => 0))), (a2, .inl (T 5, 1, .inr (.inl (fun _ => 0))))] sz U)) (va_Qi (fun (r u : Int32) => r = u) (fun (u : Int32) (t : State) => (((p1.toInt < 0) ∨ ((¬ (p1.toInt < 0)) ∧ (¬ (p1.toInt ≤ ((99999) : Int32).toInt)))) ∧ 1 = u ∧ xE dC dI [(a2, .inl (T 5, 1, .inr (.inl (fun _ => 0))))] (va_A [(a1, .inr (16, [.ref a3, .ref a4, .ref a5, .ref a6, .ref a7, .ref a8, .ref a9, .ref a10, .ref a11, .ref a12])), (a3, .inr (10, [.ref a13, .ref a14, .ref a15, .ref a16, .ref a17, .int 0, .int 0])), (a5, .inr (8, [.ref a19, .ref a20, .int 0, .int (-1)])), (a20, .inl (T 0, 12, .inl (fun _ => 0))), (a8, .inr (14, [.ref a25, .int 0, .int 0])), (a25, .inr (13, [.ref a26, .int 0])), (a26, .inl (T 0, 12, .inl (fun _ => 0))), (a2, .inl (T 5, 1, .inr (.inl (fun _ => 0))))] sz) t) ∨ (((¬ (p1.toInt < 0)) ∧ (p1.toInt ≤ ((99999) : Int32).toInt)) ∧ 0 = u ∧ xE dC dI [(a2, .inl (T 5, 1, .inr (.inl (vp_updL (fun _ => 0) (0 : Int32).toNatClampNeg 0))))] (va_A [(a1, .inr (16, [.ref a3, .ref a4, .ref a5, .ref a6, .ref a7, .ref a8, .ref a9, .ref a10, .ref a11, .ref a12])), (a3, .inr (10, [.ref a13, .ref a14, .ref a15, .ref a16, .ref a17, .int 0, .int 0])), (a5, .inr (8, [.ref a19, .ref a20, .int 0, .int (-1)])), (a20, .inl (T 0, 12, .inl (fun _ => 0))), (a8, .inr (14, [.ref a25, .int 0, .int 0])), (a25, .inr (13, [.ref a26, .int 0])), (a26, .inl (T 0, 12, .inl (fun _ => 0))), (a2, .inl (T 5, 1, .inr (.inl (fun _ => 0))))] sz) t)) (va_A [(a1, .inr (16, [.ref a3, .ref a4, .ref a5, .ref a6, .ref a7, .ref a8, .ref a9, .ref a10, .ref a11, .ref a12])), (a3, .inr (10, [.ref a13, .ref a14, .ref a15, .ref a16, .ref a17, .int 0, .int 0])), (a5, .inr (8, [.ref a19, .ref a20, .int 0, .int (-1)])), (a20, .inl (T 0, 12, .inl (fun _ => 0))), (a8, .inr (14, [.ref a25, .int 0, .int 0])), (a25, .inr (13, [.ref a26, .int 0])), (a26, .inl (T 0, 12, .inl (fun _ => 0))), (a2, .inl (T 5, 1, .inr (.inl (fun _ => 0))))] sz)) 1 6 (va_A [(a1, .inr (16, [.ref a3, .ref a4, .ref a5, .ref a6, .ref a7, .ref a8, .ref a9, .ref a10, .ref a11, .ref a12])), (a3, .inr (10, [.ref a13, .ref a14, .ref a15, .ref a16, .ref a17, .int 0, .int 0])), (a5, .inr (8, [.ref a19, .ref a20, .int 0, .int (-1)])), (a20, .inl (T 0, 12, .inl (fun _ => 0))), (a8, .inr (14, [.ref a25, .int 0, .int 0])), (a25, .inr (13, [.ref a26, .int 0])), (a26, .inl (T 0, 12, .inl (fun _ => 0))), (a2, .inl (T 5, 1, .inr (.inl (fun _ => 0))))] sz) := by
  refine va_MetW (cc := cL_countHoles) (maxL := 4) (ret := (some .int)) (hh := [(0, 9, 12, 13)]) (by decide +kernel) rfl ?_
  intro p e s m args below meth c s₁ B hml hv
  obtain ⟨rfl, hsz, hP, hK, hD0, hG⟩ := hv
  have hx := B.exec
  have hb := B.bytes
  have hr := B.returns
  have hts := atoms_spec (ws := wsL_countHoles) B.pre
  have hown : s.vm.findClass RL = some m.cls := findClass_of_methodNamed B.named
  have hlocks := B.notSynchronized
  have htab := vx_table (x := yL_countHoles) B (hts (.codeWith yL_countHoles cL_countHoles 4 (some .int) [(0, 9, 12, 13)]) (by decide +kernel))
  subst hsz
  have hD := hD0.self (sz := s.heap.size)
  generalize hAe : va_A [(a1, .inr (16, [.ref a3, .ref a4, .ref a5, .ref a6, .ref a7, .ref a8, .ref a9, .ref a10, .ref a11, .ref a12])), (a3, .inr (10, [.ref a13, .ref a14, .ref a15, .ref a16, .ref a17, .int 0, .int 0])), (a5, .inr (8, [.ref a19, .ref a20, .int 0, .int (-1)])), (a20, .inl (T 0, 12, .inl (fun _ => 0))), (a8, .inr (14, [.ref a25, .int 0, .int 0])), (a25, .inr (13, [.ref a26, .int 0])), (a26, .inl (T 0, 12, .inl (fun _ => 0))), (a2, .inl (T 5, 1, .inr (.inl (fun _ => 0))))] s.heap.size = A at hD hG ⊢
  have hA : ∀ q : Nat, s.heap.size ≤ q → A q := fun q h => by rw [← hAe]; exact Or.inr h
  have hS : va_S A s.heap s.heap [] := va_S.rf
  have hl := lv_entry ([.ref a1, .int p1, .ref a2]) (n := 4) (Nat.le_of_ble_eq_true rfl)
  rw [lg_entry_eq]
  generalize (lg_sl ([.ref a1, .int p1, .ref a2]) ++ List.replicate (4 - (lg_sl ([.ref a1, .int p1, .ref a2])).length) Slot.unset).toArray = ls at hl ⊢
  have hl : lv_has ls 4 [(0, .ref a1), (1, .int p1), (2, .ref a2)] := hl
  refine lv_aload_n hx hb dL_countHoles_0 rfl (lv_at hl 2 rfl) ?_
  refine lv_iconst (v := 0) hx hb dL_countHoles_1 (by decide) ?_
  refine lv_aload_n hx hb dL_countHoles_2 rfl (lv_at hl 0 rfl) ?_
  refine lv_iload_n hx hb dL_countHoles_3 rfl (lv_at hl 1 rfl) ?_
  have hPc := hP.sub (ws' := [(a1, .inr (16, [.ref a3, .ref a4, .ref a5, .ref a6, .ref a7, .ref a8, .ref a9, .ref a10, .ref a11, .ref a12])), (a3, .inr (10, [.ref a13, .ref a14, .ref a15, .ref a16, .ref a17, .int 0, .int 0])), (a5, .inr (8, [.ref a19, .ref a20, .int 0, .int (-1)])), (a20, .inl (T 0, 12, .inl (fun _ => 0))), (a8, .inr (14, [.ref a25, .int 0, .int 0])), (a25, .inr (13, [.ref a26, .int 0])), (a26, .inl (T 0, 12, .inl (fun _ => 0)))]) [0, 1, 2, 3, 4, 5, 6] rfl
  have hDc := hD.sub (ws' := [(a1, .inr (16, [.ref a3, .ref a4, .ref a5, .ref a6, .ref a7, .ref a8, .ref a9, .ref a10, .ref a11, .ref a12])), (a3, .inr (10, [.ref a13, .ref a14, .ref a15, .ref a16, .ref a17, .int 0, .int 0])), (a5, .inr (8, [.ref a19, .ref a20, .int 0, .int (-1)])), (a20, .inl (T 0, 12, .inl (fun _ => 0))), (a8, .inr (14, [.ref a25, .int 0, .int 0])), (a25, .inr (13, [.ref a26, .int 0])), (a26, .inl (T 0, 12, .inl (fun _ => 0)))]) [0, 1, 2, 3, 4, 5, 6] (by decide) rfl
  have hFc := va_free (wc := [(a1, .inr (16, [.ref a3, .ref a4, .ref a5, .ref a6, .ref a7, .ref a8, .ref a9, .ref a10, .ref a11, .ref a12])), (a3, .inr (10, [.ref a13, .ref a14, .ref a15, .ref a16, .ref a17, .int 0, .int 0])), (a5, .inr (8, [.ref a19, .ref a20, .int 0, .int (-1)])), (a20, .inl (T 0, 12, .inl (fun _ => 0))), (a8, .inr (14, [.ref a25, .int 0, .int 0])), (a25, .inr (13, [.ref a26, .int 0])), (a26, .inl (T 0, 12, .inl (fun _ => 0)))]) hD hS hA [0, 1, 2, 3, 4, 5, 6] rfl
  refine vx_calli (vx_runV (As := [.int p1]) (rest := [.int 0, .ref a2]) ⟨hx, hb, hml, hown, hts⟩ (xcX11_countHoles l hst dC dI T a1 a3 a4 a5 a6 a7 a8 a9 a10 a11 a12 a13 a14 a15 a16 a17 a19 a20 a25 a26 s.heap.size p1) (cwV 1 hts gL_countHoles_X11_countHoles rfl rfl rfl (by decide +kernel) ⟨Nat.le_of_ble_eq_true rfl, Nat.le_of_ble_eq_true rfl⟩) ⟨xBlind, va_recv hK hPc (ci := 16) (q0 := 0) rfl rfl, xCall hK hG hS hPc hDc hFc⟩ rfl rfl hl.1 rfl (lv_room (Nat.le_of_ble_eq_true rfl)) dL_countHoles_4 ⟨Nat.le_of_ble_eq_true rfl, Nat.le_of_ble_eq_true rfl⟩) hS (fun q _ h => hFc q h) hFc (fun q _ h => hFc q h) (fun E ce q9 u t H locs ht hvm hw hB hz1 hk1 hS hce hcv hcl => ?_) (fun r_9 u t H locs ht hvm hw hB hz1 hk1 hS => ?_)
  · rcases hB with ⟨c_1, hE, hP1, hD1⟩
    have hz_2 : ((99999) : Int32).toInt = 99999 := by decide +kernel
    subst hE
    rw [ht] at hP1
    obtain ⟨hP, hD⟩ := va_join (wr := [(a2, .inl (T 5, 1, .inr (.inl (fun _ => 0))))]) (w1 := []) hP hD [0, 1, 2, 3, 4, 5, 6] [7] rfl rfl (by decide) (by decide) hk1 hFc hP1 hD1
    have hP : va_P (dC, dI) vwCl [(a2, .inl (T 5, 1, .inr (.inl (fun _ => 0))))] H := hP
    have hD : va_D A [(a2, .inl (T 5, 1, .inr (.inl (fun _ => 0))))] := hD
    clear hPc hDc hFc hP1 hD1 hk1 hz1 ht hvm
    refine vx_catch (E := "java/lang/IllegalArgumentException") (name := "java/lang/IllegalArgumentException") hown [] ⟨0, 9, 12, 13⟩ [] (htab.trans rfl) (fun _ h => absurd h List.not_mem_nil) (by decide) (by decide) (hts (.classLink RL 13 "java/lang/IllegalArgumentException") (by decide +kernel)) (xBad_use hG.2.2.2.1 _ (by decide +kernel)) hce hcv hcl ?_
    refine lv_astore_n (lv' := [(3, .ref q9), (0, .ref a1), (1, .int p1), (2, .ref a2)]) hx hb dL_countHoles_12 rfl hl (by decide) rfl (fun ls hl => ?_)
    refine lv_iconst (v := 1) hx hb dL_countHoles_13 (by decide) ?_
    have hP9 := hP.sub (ws' := [(a2, .inl (T 5, 1, .inr (.inl (fun _ => 0))))]) [0] rfl
    have hD9 := hD.sub (ws' := [(a2, .inl (T 5, 1, .inr (.inl (fun _ => 0))))]) [0] (by decide) rfl
    exact W.iret (v := 1) hx hb hr (fun t ht hW => ⟨⟨_, _, rfl, rfl, (Or.inl ⟨c_1, rfl, by rw [ht]; exact hP9, hD9⟩)⟩, hS.F ht⟩) hS.2.2 dL_countHoles_14
  · subst hw
    rcases hB with ⟨c_3, hr_9, hP1, hD1⟩
    have hz_4 : ((99999) : Int32).toInt = 99999 := by decide +kernel
    rw [ht] at hP1
    subst hr_9
    obtain ⟨hP, hD⟩ := va_join (wr := [(a2, .inl (T 5, 1, .inr (.inl (fun _ => 0))))]) (w1 := []) hP hD [0, 1, 2, 3, 4, 5, 6] [7] rfl rfl (by decide) (by decide) hk1 hFc hP1 hD1
    have hP : va_P (dC, dI) vwCl [(a2, .inl (T 5, 1, .inr (.inl (fun _ => 0))))] H := hP
    have hD : va_D A [(a2, .inl (T 5, 1, .inr (.inl (fun _ => 0))))] := hD
    clear hPc hDc hFc hP1 hD1 hk1 hz1 ht hvm
    refine lv_i2l (v := 0) hx hb dL_countHoles_7 (by decide) ?_
    refine va_last hx hb hK hP hD hS 0 5 rfl rfl (show vp_in 0 1 by unfold vp_in; decide) dL_countHoles_8 (fun H locs hP hD hS => ?_)
    have hP : va_P (dC, dI) vwCl [(a2, .inl (T 5, 1, .inr (.inl (vp_updL (fun _ => 0) (0 : Int32).toNatClampNeg 0))))] H := hP
    have hD : va_D A [(a2, .inl (T 5, 1, .inr (.inl (vp_updL (fun _ => 0) (0 : Int32).toNatClampNeg 0))))] := hD
    refine lv_goto (tgt := 15) hx hb dL_countHoles_9 (by decide) ?_
    refine lv_iconst (v := 0) hx hb dL_countHoles_15 (by decide) ?_
    have hP9 := hP.sub (ws' := [(a2, .inl (T 5, 1, .inr (.inl (vp_updL (fun _ => 0) (0 : Int32).toNatClampNeg 0))))]) [0] rfl
    have hD9 := hD.sub (ws' := [(a2, .inl (T 5, 1, .inr (.inl (vp_updL (fun _ => 0) (0 : Int32).toNatClampNeg 0))))]) [0] (by decide) rfl
    exact W.iret (v := 0) hx hb hr (fun t ht hW => ⟨⟨_, _, rfl, rfl, (Or.inr (⟨c_3, rfl, by rw [ht]; exact hP9, hD9⟩))⟩, hS.F ht⟩) hS.2.2 dL_countHoles_16
set_option maxHeartbeats 4000000 in
set_option maxRecDepth 100000 in
theorem xcX11_needGraph (l : Launch) (hst : l.stackTraces = false) (dC : Nat → ClassId) (dI : Nat → Nat → Nat) (T : Nat → ClassId) (sz : Nat) (p0 : Int32) : vx_Met l yX11_needGraph wsX11_needGraph ({ frames := 6, cells := 1, slots := 6, locals := 82 } : Room) (va_Pc [.int p0] (fun U => xB dC dI T [] sz U)) (va_Qv (fun _ : Unit => True) (fun (_ : Unit) (t : State) => ((p0.toInt = 103) ∨ ((¬ (p0.toInt = 103)) ∧ (p0.toInt = 114)) ∨ ((¬ (p0.toInt = 103)) ∧ (¬ (p0.toInt = 114)) ∧ (p0.toInt = 110)) ∨ ((¬ (p0.toInt = 103)) ∧ (¬ (p0.toInt = 114)) ∧ (¬ (p0.toInt = 110)) ∧ (p0.toInt = 116))) ∧ xE dC dI [] (va_A [] sz) t) (va_A [] sz)) (vx_X (fun _ : Unit => True) (fun (E : String) (_ : Unit) (t : State) => ((¬ (p0.toInt = 103)) ∧ (¬ (p0.toInt = 114)) ∧ (¬ (p0.toInt = 110)) ∧ (¬ (p0.toInt = 116))) ∧ E = "java/lang/IllegalArgumentException" ∧ xE dC dI [] (va_A [] sz) t) (va_A [] sz)) 1 6 (va_A [] sz) := by
  refine vx_ofW (cc := cX11_needGraph) (maxL := 1) (ret := none) (by decide +kernel) rfl ?_
  intro p e s m args below meth c s₁ B hml hex hv
  obtain ⟨rfl, hsz, hP, hK, hD0, hG⟩ := hv
  have hx := B.exec
  have hb := B.bytes
  have hr := B.returns
  have hts := atoms_spec (ws := wsX11_needGraph) B.pre
  have hown : s.vm.findClass RX11 = some m.cls := findClass_of_methodNamed B.named
  have hlocks := B.notSynchronized
  have hm_214 : ∀ w ∈ (vx_atS RX11 214 "java/lang/IllegalArgumentException" ["java/lang/RuntimeException", "java/lang/Exception"]).filter goodWord, w ∈ wsX11_needGraph := by decide +kernel
  have hat_214 : ∀ w ∈ vx_atS RX11 214 "java/lang/IllegalArgumentException" ["java/lang/RuntimeException", "java/lang/Exception"], w.before (#[.int p0] : Array Value) s = true := vx_hat (B := xBad) (fun w hw => hts w (hm_214 w hw)) (by decide +kernel) (xBad_use hG.2.2.2.1)
  subst hsz
  have hD := hD0.self (sz := s.heap.size)
  generalize hAe : va_A [] s.heap.size = A at hD hG ⊢
  have hA : ∀ q : Nat, s.heap.size ≤ q → A q := fun q h => by rw [← hAe]; exact Or.inr h
  have hS : va_S A s.heap s.heap [] := va_S.rf
  have hl := lv_entry ([.int p0]) (n := 1) (Nat.le_of_ble_eq_true rfl)
  rw [lg_entry_eq]
  generalize (lg_sl ([.int p0]) ++ List.replicate (1 - (lg_sl ([.int p0])).length) Slot.unset).toArray = ls at hl ⊢
  have hl : lv_has ls 1 [(0, .int p0)] := hl
  refine lv_iload_n hx hb dX11_needGraph_0 rfl (lv_at hl 0 rfl) ?_
  refine lv_bipush (v := 103) hx hb dX11_needGraph_1 (by decide) ?_
  refine lv_icmp_eq (tgt := 35) hx hb dX11_needGraph_3 (by decide) (fun c_1 => ?_) (fun c_1 => ?_)
  · have nc_1 : p0.toInt = 103 := (xi_eq rfl (by decide +kernel)).mp c_1
    refine vx_ret ?_
    have hP9 := hP.sub (ws' := []) [] rfl
    have hD9 := hD.sub (ws' := []) [] (by decide) rfl
    refine W.widen (k := 1) (n := 6) (Nat.le_of_ble_eq_true rfl) (Nat.le_of_ble_eq_true rfl) ?_
    exact W.vret hx hb hr (fun t ht hW => ⟨⟨(), rfl, trivial, ⟨(Or.inl nc_1), by rw [ht]; exact hP9, hD9⟩⟩, hS.F ht⟩) hS.2.2 dX11_needGraph_35
  · have nc_1 : ¬ (p0.toInt = 103) := mt (xi_eq rfl (by decide +kernel)).mpr c_1
    refine lv_iload_n hx hb dX11_needGraph_6 rfl (lv_at hl 0 rfl) ?_
    refine lv_bipush (v := 114) hx hb dX11_needGraph_7 (by decide) ?_
    refine lv_icmp_eq (tgt := 35) hx hb dX11_needGraph_9 (by decide) (fun c_2 => ?_) (fun c_2 => ?_)
    · have nc_2 : p0.toInt = 114 := (xi_eq rfl (by decide +kernel)).mp c_2
      refine vx_ret ?_
      have hP9 := hP.sub (ws' := []) [] rfl
      have hD9 := hD.sub (ws' := []) [] (by decide) rfl
      refine W.widen (k := 1) (n := 6) (Nat.le_of_ble_eq_true rfl) (Nat.le_of_ble_eq_true rfl) ?_
      exact W.vret hx hb hr (fun t ht hW => ⟨⟨(), rfl, trivial, ⟨(Or.inr (Or.inl ⟨nc_1, nc_2⟩)), by rw [ht]; exact hP9, hD9⟩⟩, hS.F ht⟩) hS.2.2 dX11_needGraph_35
    · have nc_2 : ¬ (p0.toInt = 114) := mt (xi_eq rfl (by decide +kernel)).mpr c_2
      refine lv_iload_n hx hb dX11_needGraph_12 rfl (lv_at hl 0 rfl) ?_
      refine lv_bipush (v := 110) hx hb dX11_needGraph_13 (by decide) ?_
      refine lv_icmp_eq (tgt := 35) hx hb dX11_needGraph_15 (by decide) (fun c_3 => ?_) (fun c_3 => ?_)
      · have nc_3 : p0.toInt = 110 := (xi_eq rfl (by decide +kernel)).mp c_3
        refine vx_ret ?_
        have hP9 := hP.sub (ws' := []) [] rfl
        have hD9 := hD.sub (ws' := []) [] (by decide) rfl
        refine W.widen (k := 1) (n := 6) (Nat.le_of_ble_eq_true rfl) (Nat.le_of_ble_eq_true rfl) ?_
        exact W.vret hx hb hr (fun t ht hW => ⟨⟨(), rfl, trivial, ⟨(Or.inr (Or.inr (Or.inl ⟨nc_1, nc_2, nc_3⟩))), by rw [ht]; exact hP9, hD9⟩⟩, hS.F ht⟩) hS.2.2 dX11_needGraph_35
      · have nc_3 : ¬ (p0.toInt = 110) := mt (xi_eq rfl (by decide +kernel)).mpr c_3
        refine lv_iload_n hx hb dX11_needGraph_18 rfl (lv_at hl 0 rfl) ?_
        refine lv_bipush (v := 116) hx hb dX11_needGraph_19 (by decide) ?_
        refine lv_icmp_eq (tgt := 35) hx hb dX11_needGraph_21 (by decide) (fun c_4 => ?_) (fun c_4 => ?_)
        · have nc_4 : p0.toInt = 116 := (xi_eq rfl (by decide +kernel)).mp c_4
          refine vx_ret ?_
          have hP9 := hP.sub (ws' := []) [] rfl
          have hD9 := hD.sub (ws' := []) [] (by decide) rfl
          refine W.widen (k := 1) (n := 6) (Nat.le_of_ble_eq_true rfl) (Nat.le_of_ble_eq_true rfl) ?_
          exact W.vret hx hb hr (fun t ht hW => ⟨⟨(), rfl, trivial, ⟨(Or.inr (Or.inr (Or.inr (⟨nc_1, nc_2, nc_3, nc_4⟩)))), by rw [ht]; exact hP9, hD9⟩⟩, hS.F ht⟩) hS.2.2 dX11_needGraph_35
        · have nc_4 : ¬ (p0.toInt = 116) := mt (xi_eq rfl (by decide +kernel)).mpr c_4
          obtain ⟨sa, hsa⟩ := hG.2.2.2.2.1 (RX11, 389, "there is no such graph") (by decide +kernel)
          have hP9 := hP.sub (ws' := []) [] rfl
          have hD9 := hD.sub (ws' := []) [] (by decide) rfl
          exact vx_throwSW (cls := "java/lang/IllegalArgumentException") (names := ["java/lang/RuntimeException", "java/lang/Exception"]) (text := "there is no such graph") (ic := 214) hx hb hst hown (by decide +kernel) (by decide +kernel) (hts (.classLink RX11 210 "java/lang/IllegalArgumentException") (by decide +kernel)) (hts (.initialized "java/lang/IllegalArgumentException") (by decide +kernel)) hsa hat_214 (by decide +kernel) hG.1 hG.2.1 hS (by rw [hml]; exact hl.1) dX11_needGraph_24 dX11_needGraph_27 dX11_needGraph_28 dX11_needGraph_31 dX11_needGraph_34 (fun x hx => absurd (hex x hx) id) (Nat.le_of_ble_eq_true rfl) (Nat.le_of_ble_eq_true rfl) (Nat.le_of_ble_eq_true rfl) (Nat.le_of_ble_eq_true rfl) hlocks (fun t hvm hz1 hk1 => ⟨(), trivial, ⟨⟨nc_1, nc_2, nc_3, nc_4⟩, rfl, hP9.kept (fun k x hx => hk1 x.1 ((hP9 k x hx).lt)), hD9⟩, xthrF hS hz1 hk1⟩) hS.2.2 (Nat.le_of_ble_eq_true rfl) (Nat.le_of_ble_eq_true rfl)
set_option maxHeartbeats 4000000 in
set_option maxRecDepth 100000 in
theorem xcX4_growTree (l : Launch) (hst : l.stackTraces = false) (dC : Nat → ClassId) (dI : Nat → Nat → Nat) (T : Nat → ClassId) (a1 : Nat) (a2 : Nat) (a3 : Nat) (a4 : Nat) (a5 : Nat) (a6 : Nat) (a7 : Nat) (a8 : Nat) (a9 : Nat) (a10 : Nat) (sz : Nat) : Met l yX4_growTree wsX4_growTree ({ frames := 3, cells := 0, slots := 0, locals := 64 } : Room) (va_Pc [.ref a1, .ref a2] (fun U => xB dC dI T [(a2, .inr (10, [.ref a3, .ref a4, .ref a5, .ref a6, .ref a7, .int 0, .int 0])), (a1, .inr (9, [.ref a8, .ref a9, .int 0, .int (-1)])), (a8, .inr (13, [.ref a10, .int 0])), (a10, .inl (T 0, 12, .inl (fun _ => 0))), (a9, .inl (T 0, 12, .inl (fun _ => 0)))] sz U)) (va_Qv (fun _ : Unit => True) (fun (_ : Unit) (t : State) => ∃ (g_2 : Nat → Int32), xE dC dI [(a2, .inr (10, [.ref a3, .ref a4, .ref a5, .ref a6, .ref a7, .int 0, .int 0])), (a1, .inr (9, [.ref a8, .ref a9, .int 0, .int 0])), (a8, .inr (13, [.ref a10, .int 0])), (a10, .inl (T 0, 12, .inl g_2)), (a9, .inl (T 0, 12, .inl (fun _ => 0)))] (va_A [(a2, .inr (10, [.ref a3, .ref a4, .ref a5, .ref a6, .ref a7, .int 0, .int 0])), (a1, .inr (9, [.ref a8, .ref a9, .int 0, .int (-1)])), (a8, .inr (13, [.ref a10, .int 0])), (a10, .inl (T 0, 12, .inl (fun _ => 0))), (a9, .inl (T 0, 12, .inl (fun _ => 0)))] sz) t) (va_A [(a2, .inr (10, [.ref a3, .ref a4, .ref a5, .ref a6, .ref a7, .int 0, .int 0])), (a1, .inr (9, [.ref a8, .ref a9, .int 0, .int (-1)])), (a8, .inr (13, [.ref a10, .int 0])), (a10, .inl (T 0, 12, .inl (fun _ => 0))), (a9, .inl (T 0, 12, .inl (fun _ => 0)))] sz)) 0 0 (va_A [(a2, .inr (10, [.ref a3, .ref a4, .ref a5, .ref a6, .ref a7, .int 0, .int 0])), (a1, .inr (9, [.ref a8, .ref a9, .int 0, .int (-1)])), (a8, .inr (13, [.ref a10, .int 0])), (a10, .inl (T 0, 12, .inl (fun _ => 0))), (a9, .inl (T 0, 12, .inl (fun _ => 0)))] sz) := by
  refine Met.ofW (cc := cX4_growTree) (maxL := 3) (ret := none) (by decide +kernel) rfl ?_
  intro p e s m args below meth c s₁ B hml hv
  obtain ⟨rfl, hsz, hP, hK, hD0, hG⟩ := hv
  have hx := B.exec
  have hb := B.bytes
  have hr := B.returns
  have hts := atoms_spec (ws := wsX4_growTree) B.pre
  have hown : s.vm.findClass RX4 = some m.cls := findClass_of_methodNamed B.named
  have hlocks := B.notSynchronized
  have hin_X4 : ∀ w ∈ wsX40, w ∈ wsX4_growTree := by decide +kernel
  have hin_X5 : ∀ w ∈ wsX50, w ∈ wsX4_growTree := by decide +kernel
  subst hsz
  have hD := hD0.self (sz := s.heap.size)
  generalize hAe : va_A [(a2, .inr (10, [.ref a3, .ref a4, .ref a5, .ref a6, .ref a7, .int 0, .int 0])), (a1, .inr (9, [.ref a8, .ref a9, .int 0, .int (-1)])), (a8, .inr (13, [.ref a10, .int 0])), (a10, .inl (T 0, 12, .inl (fun _ => 0))), (a9, .inl (T 0, 12, .inl (fun _ => 0)))] s.heap.size = A at hD hG ⊢
  have hA : ∀ q : Nat, s.heap.size ≤ q → A q := fun q h => by rw [← hAe]; exact Or.inr h
  have hS : va_S A s.heap s.heap [] := va_S.rf
  have hl := lv_entry ([.ref a1, .ref a2]) (n := 3) (Nat.le_of_ble_eq_true rfl)
  rw [lg_entry_eq]
  generalize (lg_sl ([.ref a1, .ref a2]) ++ List.replicate (3 - (lg_sl ([.ref a1, .ref a2])).length) Slot.unset).toArray = ls at hl ⊢
  have hl : lv_has ls 3 [(0, .ref a1), (1, .ref a2)] := hl
  refine lv_aload_n hx hb dX4_growTree_0 rfl (lv_at hl 0 rfl) ?_
  refine va_get (D := (dC, dI)) (ci := 9) (v := .int (-1)) (C := RX4) (T := TX4) (N := 4) hx hb hts hin_X4 hown hK hP 1 rfl rfl 3 (by decide) (hts (.fieldLink RX4 22 "Nearestward$Graphs" "grownAt" "I") (by decide +kernel)) (fun _ h9 => h9) rfl dX4_growTree_1 ?_
  refine lv_aload_n hx hb dX4_growTree_4 rfl (lv_at hl 1 rfl) ?_
  refine va_get (D := (dC, dI)) (ci := 10) (v := .int 0) (C := RX5) (T := TX5) (N := 7) hx hb hts hin_X5 hown hK hP 0 rfl rfl 6 (by decide) (hts (.fieldLink RX4 52 "Nearestward$Ground" "changes" "I") (by decide +kernel)) (fun _ h9 => h9) rfl dX4_growTree_5 ?_
  refine lv_icmp_ne (tgt := 12) hx hb dX4_growTree_8 (by decide) (fun c_1 => ?_) (fun c_1 => absurd c_1 (by decide))
  refine lv_aload_n hx hb dX4_growTree_12 rfl (lv_at hl 0 rfl) ?_
  refine lv_aload_n hx hb dX4_growTree_13 rfl (lv_at hl 1 rfl) ?_
  refine va_get (D := (dC, dI)) (ci := 10) (v := .int 0) (C := RX5) (T := TX5) (N := 7) hx hb hts hin_X5 hown hK hP 0 rfl rfl 6 (by decide) (hts (.fieldLink RX4 52 "Nearestward$Ground" "changes" "I") (by decide +kernel)) (fun _ h9 => h9) rfl dX4_growTree_14 ?_
  refine va_put (D := (dC, dI)) (ci := 9) (v := .int 0) (ty := .int) (C := RX4) (T := TX4) (N := 4) hx hb hts hin_X4 tyX4 tyX4_ok nmX4 hown hK hP hD hS 1 rfl rfl 3 (by decide) (hts (.fieldLink RX4 22 "Nearestward$Graphs" "grownAt" "I") (by decide +kernel)) (fun _ h9 => h9) rfl (by decide +kernel) rfl rfl (Nat.le_of_ble_eq_true rfl) dX4_growTree_17 (fun H locs hP hD hS => ?_)
  have hP : va_P (dC, dI) vwCl [(a2, .inr (10, [.ref a3, .ref a4, .ref a5, .ref a6, .ref a7, .int 0, .int 0])), (a1, .inr (9, [.ref a8, .ref a9, .int 0, .int 0])), (a8, .inr (13, [.ref a10, .int 0])), (a10, .inl (T 0, 12, .inl (fun _ => 0))), (a9, .inl (T 0, 12, .inl (fun _ => 0)))] H := hP
  have hD : va_D A [(a2, .inr (10, [.ref a3, .ref a4, .ref a5, .ref a6, .ref a7, .int 0, .int 0])), (a1, .inr (9, [.ref a8, .ref a9, .int 0, .int 0])), (a8, .inr (13, [.ref a10, .int 0])), (a10, .inl (T 0, 12, .inl (fun _ => 0))), (a9, .inl (T 0, 12, .inl (fun _ => 0)))] := hD
  refine lv_aload_n hx hb dX4_growTree_20 rfl (lv_at hl 0 rfl) ?_
  refine va_get (D := (dC, dI)) (ci := 9) (v := .ref a8) (C := RX4) (T := TX4) (N := 4) hx hb hts hin_X4 hown hK hP 1 rfl rfl 0 (by decide) (hts (.fieldLink RX4 12 "Nearestward$Graphs" "parts" "LNearestward$Parts;") (by decide +kernel)) (fun _ h9 => h9) rfl dX4_growTree_21 ?_
  refine lv_aload_n hx hb dX4_growTree_24 rfl (lv_at hl 1 rfl) ?_
  have hPc := hP.sub (ws' := [(a2, .inr (10, [.ref a3, .ref a4, .ref a5, .ref a6, .ref a7, .int 0, .int 0])), (a8, .inr (13, [.ref a10, .int 0])), (a10, .inl (T 0, 12, .inl (fun _ => 0)))]) [0, 2, 3] rfl
  have hDc := hD.sub (ws' := [(a2, .inr (10, [.ref a3, .ref a4, .ref a5, .ref a6, .ref a7, .int 0, .int 0])), (a8, .inr (13, [.ref a10, .int 0])), (a10, .inl (T 0, 12, .inl (fun _ => 0)))]) [0, 2, 3] (by decide) rfl
  have hFc := va_free (wc := [(a2, .inr (10, [.ref a3, .ref a4, .ref a5, .ref a6, .ref a7, .int 0, .int 0])), (a8, .inr (13, [.ref a10, .int 0])), (a10, .inl (T 0, 12, .inl (fun _ => 0)))]) hD hS hA [0, 2, 3] rfl
  refine va_callv (va_runV (As := [.ref a2]) (rest := []) ⟨hx, hb, hml, hown, hts⟩ (xcX8_startWith l hst dC dI T a8 a2 a3 a4 a5 a6 a7 a10 H.size) (cwV 1 hts gX4_growTree_X8_startWith rfl rfl rfl (by decide +kernel) ⟨Nat.le_of_ble_eq_true rfl, Nat.le_of_ble_eq_true rfl⟩) ⟨xBlind, va_recv hK hPc (ci := 13) (q0 := 1) rfl rfl, xCall hK hG hS hPc hDc hFc⟩ rfl rfl hl.1 rfl (lv_room (Nat.le_of_ble_eq_true rfl)) dX4_growTree_25 ⟨Nat.le_of_ble_eq_true rfl, Nat.le_of_ble_eq_true rfl⟩) hS (fun q _ h => hFc q h) hFc (fun u t H locs ht hvm hw hB hz1 hk1 hS => ?_)
  rcases hB with ⟨g_2, hP1, hD1⟩
  rw [ht] at hP1
  obtain ⟨hP, hD⟩ := va_join (wr := [(a1, .inr (9, [.ref a8, .ref a9, .int 0, .int 0])), (a9, .inl (T 0, 12, .inl (fun _ => 0)))]) (w1 := [(a2, .inr (10, [.ref a3, .ref a4, .ref a5, .ref a6, .ref a7, .int 0, .int 0])), (a8, .inr (13, [.ref a10, .int 0])), (a10, .inl (T 0, 12, .inl g_2))]) hP hD [0, 2, 3] [1, 4] rfl rfl (by decide) (by decide) hk1 hFc hP1 hD1
  have hP := hP.sub (ws' := [(a2, .inr (10, [.ref a3, .ref a4, .ref a5, .ref a6, .ref a7, .int 0, .int 0])), (a1, .inr (9, [.ref a8, .ref a9, .int 0, .int 0])), (a8, .inr (13, [.ref a10, .int 0])), (a10, .inl (T 0, 12, .inl g_2)), (a9, .inl (T 0, 12, .inl (fun _ => 0)))]) [2, 0, 3, 4, 1] rfl
  have hD := hD.sub (ws' := [(a2, .inr (10, [.ref a3, .ref a4, .ref a5, .ref a6, .ref a7, .int 0, .int 0])), (a1, .inr (9, [.ref a8, .ref a9, .int 0, .int 0])), (a8, .inr (13, [.ref a10, .int 0])), (a10, .inl (T 0, 12, .inl g_2)), (a9, .inl (T 0, 12, .inl (fun _ => 0)))]) [2, 0, 3, 4, 1] (by decide) rfl
  clear hPc hDc hFc hP1 hD1 hk1 hz1 ht hvm
  refine lv_aload_n hx hb dX4_growTree_28 rfl (lv_at hl 0 rfl) ?_
  refine lv_iconst (v := 0) hx hb dX4_growTree_29 (by decide) ?_
  refine va_put (D := (dC, dI)) (ci := 9) (v := .int 0) (ty := .int) (C := RX4) (T := TX4) (N := 4) hx hb hts hin_X4 tyX4 tyX4_ok nmX4 hown hK hP hD hS 1 rfl rfl 2 (by decide) (hts (.fieldLink RX4 59 "Nearestward$Graphs" "treeDistance" "I") (by decide +kernel)) (fun _ h9 => h9) rfl (by decide +kernel) rfl rfl (Nat.le_of_ble_eq_true rfl) dX4_growTree_30 (fun H locs hP hD hS => ?_)
  have hP : va_P (dC, dI) vwCl [(a2, .inr (10, [.ref a3, .ref a4, .ref a5, .ref a6, .ref a7, .int 0, .int 0])), (a1, .inr (9, [.ref a8, .ref a9, .int 0, .int 0])), (a8, .inr (13, [.ref a10, .int 0])), (a10, .inl (T 0, 12, .inl g_2)), (a9, .inl (T 0, 12, .inl (fun _ => 0)))] H := hP
  have hD : va_D A [(a2, .inr (10, [.ref a3, .ref a4, .ref a5, .ref a6, .ref a7, .int 0, .int 0])), (a1, .inr (9, [.ref a8, .ref a9, .int 0, .int 0])), (a8, .inr (13, [.ref a10, .int 0])), (a10, .inl (T 0, 12, .inl g_2)), (a9, .inl (T 0, 12, .inl (fun _ => 0)))] := hD
  refine lv_iconst (v := 0) hx hb dX4_growTree_33 (by decide) ?_
  refine lv_istore_n (lv' := [(2, .int 0), (0, .ref a1), (1, .ref a2)]) hx hb dX4_growTree_34 rfl hl (by decide) rfl (fun ls hl => ?_)
  refine xLoop (P := fun i_k_4 H locs ls => va_P (dC, dI) vwCl [(a2, .inr (10, [.ref a3, .ref a4, .ref a5, .ref a6, .ref a7, .int 0, .int 0])), (a1, .inr (9, [.ref a8, .ref a9, .int 0, .int 0])), (a8, .inr (13, [.ref a10, .int 0])), (a10, .inl (T 0, 12, .inl g_2)), (a9, .inl (T 0, 12, .inl (fun _ => 0)))] H ∧ va_D A [(a2, .inr (10, [.ref a3, .ref a4, .ref a5, .ref a6, .ref a7, .int 0, .int 0])), (a1, .inr (9, [.ref a8, .ref a9, .int 0, .int 0])), (a8, .inr (13, [.ref a10, .int 0])), (a10, .inl (T 0, 12, .inl g_2)), (a9, .inl (T 0, 12, .inl (fun _ => 0)))] ∧ va_S A s.heap H locs ∧ lv_has ls 3 [(2, .int (nI i_k_4)), (0, .ref a1), (1, .ref a2)]) (N := 12) (fun i_k_4 H locs ls hi_k_4 hI ih_k_4 => ?_) (0) _ _ _ (by omega) ⟨hP, hD, hS, lv_sub hl [0, 1, 2] rfl⟩
  obtain ⟨hP, hD, hS, hl⟩ := hI
  refine lv_iload_n hx hb dX4_growTree_35 rfl (lv_at hl 0 rfl) ?_
  refine lv_bipush (v := 12) hx hb dX4_growTree_36 (by decide) ?_
  have hz_6 : (nI i_k_4).toInt = ((i_k_4 : Nat) : Int) := nI_toInt (by omega)
  refine lv_icmp_ge (tgt := 54) hx hb dX4_growTree_38 (by decide) (fun c_5 => ?_) (fun c_5 => ?_)
  · have nc_5 : 12 ≤ (nI i_k_4).toInt := (xi_le (by decide +kernel) rfl).mp c_5
    refine lv_aload_n hx hb dX4_growTree_54 rfl (lv_at hl 2 rfl) ?_
    have hPc := hP.sub (ws' := [(a2, .inr (10, [.ref a3, .ref a4, .ref a5, .ref a6, .ref a7, .int 0, .int 0]))]) [0] rfl
    have hDc := hD.sub (ws' := [(a2, .inr (10, [.ref a3, .ref a4, .ref a5, .ref a6, .ref a7, .int 0, .int 0]))]) [0] (by decide) rfl
    have hFc := va_free (wc := [(a2, .inr (10, [.ref a3, .ref a4, .ref a5, .ref a6, .ref a7, .int 0, .int 0]))]) hD hS hA [0] rfl
    refine va_calli (va_runV (As := []) (rest := []) ⟨hx, hb, hml, hown, hts⟩ (xcX5_count l hst dC dI T a2 a3 a4 a5 a6 a7 H.size) (cwV 0 hts gX4_growTree_X5_count rfl rfl rfl (by decide +kernel) ⟨Nat.le_of_ble_eq_true rfl, Nat.le_of_ble_eq_true rfl⟩) ⟨xBlind, va_recv hK hPc (ci := 10) (q0 := 0) rfl rfl, xCall hK hG hS hPc hDc hFc⟩ rfl rfl hl.1 rfl (lv_room (Nat.le_of_ble_eq_true rfl)) dX4_growTree_55 ⟨Nat.le_of_ble_eq_true rfl, Nat.le_of_ble_eq_true rfl⟩) hS (fun q _ h => hFc q h) hFc (fun r_9 u t H locs ht hvm hw hB hz1 hk1 hS => ?_)
    subst hw
    rcases hB with ⟨hr_9, hP1, hD1⟩
    rw [ht] at hP1
    subst hr_9
    obtain ⟨hP, hD⟩ := va_join (wr := [(a1, .inr (9, [.ref a8, .ref a9, .int 0, .int 0])), (a8, .inr (13, [.ref a10, .int 0])), (a10, .inl (T 0, 12, .inl g_2)), (a9, .inl (T 0, 12, .inl (fun _ => 0)))]) (w1 := [(a2, .inr (10, [.ref a3, .ref a4, .ref a5, .ref a6, .ref a7, .int 0, .int 0]))]) hP hD [0] [1, 2, 3, 4] rfl rfl (by decide) (by decide) hk1 hFc hP1 hD1
    have hP := hP.sub (ws' := [(a2, .inr (10, [.ref a3, .ref a4, .ref a5, .ref a6, .ref a7, .int 0, .int 0])), (a1, .inr (9, [.ref a8, .ref a9, .int 0, .int 0])), (a8, .inr (13, [.ref a10, .int 0])), (a10, .inl (T 0, 12, .inl g_2)), (a9, .inl (T 0, 12, .inl (fun _ => 0)))]) [4, 0, 1, 2, 3] rfl
    have hD := hD.sub (ws' := [(a2, .inr (10, [.ref a3, .ref a4, .ref a5, .ref a6, .ref a7, .int 0, .int 0])), (a1, .inr (9, [.ref a8, .ref a9, .int 0, .int 0])), (a8, .inr (13, [.ref a10, .int 0])), (a10, .inl (T 0, 12, .inl g_2)), (a9, .inl (T 0, 12, .inl (fun _ => 0)))]) [4, 0, 1, 2, 3] (by decide) rfl
    clear hPc hDc hFc hP1 hD1 hk1 hz1 ht hvm
    refine lv_istore_n (lv' := [(2, .int 0), (0, .ref a1), (1, .ref a2)]) hx hb dX4_growTree_58 rfl hl (by decide) rfl (fun ls hl => ?_)
    refine lv_iload_n hx hb dX4_growTree_59 rfl (lv_at hl 0 rfl) ?_
    refine lv_iconst (v := 1) hx hb dX4_growTree_60 (by decide) ?_
    refine lv_icmp_le (tgt := 75) hx hb dX4_growTree_61 (by decide) (fun c_8 => ?_) (fun c_8 => absurd (by decide) c_8)
    have hP9 := hP.sub (ws' := [(a2, .inr (10, [.ref a3, .ref a4, .ref a5, .ref a6, .ref a7, .int 0, .int 0])), (a1, .inr (9, [.ref a8, .ref a9, .int 0, .int 0])), (a8, .inr (13, [.ref a10, .int 0])), (a10, .inl (T 0, 12, .inl g_2)), (a9, .inl (T 0, 12, .inl (fun _ => 0)))]) [0, 1, 2, 3, 4] rfl
    have hD9 := hD.sub (ws' := [(a2, .inr (10, [.ref a3, .ref a4, .ref a5, .ref a6, .ref a7, .int 0, .int 0])), (a1, .inr (9, [.ref a8, .ref a9, .int 0, .int 0])), (a8, .inr (13, [.ref a10, .int 0])), (a10, .inl (T 0, 12, .inl g_2)), (a9, .inl (T 0, 12, .inl (fun _ => 0)))]) [0, 1, 2, 3, 4] (by decide) rfl
    exact W.vret hx hb hr (fun t ht hW => ⟨⟨(), rfl, trivial, ⟨g_2, by rw [ht]; exact hP9, hD9⟩⟩, hS.F ht⟩) hS.2.2 dX4_growTree_75
  · have nc_5 : ¬ (12 ≤ (nI i_k_4).toInt) := mt (xi_le (by decide +kernel) rfl).mpr c_5
    refine lv_aload_n hx hb dX4_growTree_41 rfl (lv_at hl 1 rfl) ?_
    refine va_get (D := (dC, dI)) (ci := 9) (v := .ref a9) (C := RX4) (T := TX4) (N := 4) hx hb hts hin_X4 hown hK hP 1 rfl rfl 1 (by decide) (hts (.fieldLink RX4 18 "Nearestward$Graphs" "tree" "[I") (by decide +kernel)) (fun _ h9 => h9) rfl dX4_growTree_42 ?_
    refine lv_iload_n hx hb dX4_growTree_45 rfl (lv_at hl 0 rfl) ?_
    refine lv_iconst (v := 0) hx hb dX4_growTree_46 (by decide) ?_
    refine va_iast hx hb hK hP hD hS 4 0 rfl rfl (vp_in_nI (by omega) (by decide)) dX4_growTree_47 (fun H locs hP hD hS => ?_)
    have hP : va_P (dC, dI) vwCl [(a2, .inr (10, [.ref a3, .ref a4, .ref a5, .ref a6, .ref a7, .int 0, .int 0])), (a1, .inr (9, [.ref a8, .ref a9, .int 0, .int 0])), (a8, .inr (13, [.ref a10, .int 0])), (a10, .inl (T 0, 12, .inl g_2)), (a9, .inl (T 0, 12, .inl (fun _ => 0)))] H := by have h9 : va_P (dC, dI) vwCl [(a2, .inr (10, [.ref a3, .ref a4, .ref a5, .ref a6, .ref a7, .int 0, .int 0])), (a1, .inr (9, [.ref a8, .ref a9, .int 0, .int 0])), (a8, .inr (13, [.ref a10, .int 0])), (a10, .inl (T 0, 12, .inl g_2)), (a9, .inl (T 0, 12, .inl (upd (fun _ => 0) ((nI i_k_4) : Int32).toNatClampNeg 0)))] H := hP; rw [xz] at h9; exact h9
    have hD : va_D A [(a2, .inr (10, [.ref a3, .ref a4, .ref a5, .ref a6, .ref a7, .int 0, .int 0])), (a1, .inr (9, [.ref a8, .ref a9, .int 0, .int 0])), (a8, .inr (13, [.ref a10, .int 0])), (a10, .inl (T 0, 12, .inl g_2)), (a9, .inl (T 0, 12, .inl (fun _ => 0)))] := by have h9 : va_D A [(a2, .inr (10, [.ref a3, .ref a4, .ref a5, .ref a6, .ref a7, .int 0, .int 0])), (a1, .inr (9, [.ref a8, .ref a9, .int 0, .int 0])), (a8, .inr (13, [.ref a10, .int 0])), (a10, .inl (T 0, 12, .inl g_2)), (a9, .inl (T 0, 12, .inl (upd (fun _ => 0) ((nI i_k_4) : Int32).toNatClampNeg 0)))] := hD; rw [xz] at h9; exact h9
    refine lv_iinc (v := (nI (i_k_4 + 1))) (lv' := [(2, .int (nI (i_k_4 + 1))), (0, .ref a1), (1, .ref a2)]) hx hb dX4_growTree_48 hl (k := 0) rfl (nI_1 _) (by decide) rfl (fun ls hl => ?_)
    refine lv_goto (tgt := 35) hx hb dX4_growTree_51 (by decide) ?_
    exact ih_k_4 _ _ _ (by omega) ⟨hP, hD, hS, lv_sub hl [0, 1, 2] rfl⟩
set_option maxHeartbeats 4000000 in
set_option maxRecDepth 100000 in
theorem xcX4_countEdges (l : Launch) (hst : l.stackTraces = false) (dC : Nat → ClassId) (dI : Nat → Nat → Nat) (T : Nat → ClassId) (a1 : Nat) (a2 : Nat) (a3 : Nat) (a4 : Nat) (a5 : Nat) (a6 : Nat) (a7 : Nat) (a8 : Nat) (a9 : Nat) (sz : Nat) (p2 : Int32) : Met l yX4_countEdges wsX4_countEdges ({ frames := 2, cells := 0, slots := 0, locals := 42 } : Room) (va_Pc [.ref a1, .ref a2, .int p2] (fun U => xB dC dI T [(a2, .inr (10, [.ref a3, .ref a4, .ref a5, .ref a6, .ref a7, .int 0, .int 0])), (a1, .inr (9, [.ref a8, .ref a9, .int 0, .int 0]))] sz U)) (va_Qi (fun (r u : Int32) => r = u) (fun (u : Int32) (t : State) => 0 = u ∧ xE dC dI [(a2, .inr (10, [.ref a3, .ref a4, .ref a5, .ref a6, .ref a7, .int 0, .int 0])), (a1, .inr (9, [.ref a8, .ref a9, .int 0, .int 0]))] (va_A [(a2, .inr (10, [.ref a3, .ref a4, .ref a5, .ref a6, .ref a7, .int 0, .int 0])), (a1, .inr (9, [.ref a8, .ref a9, .int 0, .int 0]))] sz) t) (va_A [(a2, .inr (10, [.ref a3, .ref a4, .ref a5, .ref a6, .ref a7, .int 0, .int 0])), (a1, .inr (9, [.ref a8, .ref a9, .int 0, .int 0]))] sz)) 0 0 (va_A [(a2, .inr (10, [.ref a3, .ref a4, .ref a5, .ref a6, .ref a7, .int 0, .int 0])), (a1, .inr (9, [.ref a8, .ref a9, .int 0, .int 0]))] sz) := by
  refine Met.ofW (cc := cX4_countEdges) (maxL := 6) (ret := (some .int)) (by decide +kernel) rfl ?_
  intro p e s m args below meth c s₁ B hml hv
  obtain ⟨rfl, hsz, hP, hK, hD0, hG⟩ := hv
  have hx := B.exec
  have hb := B.bytes
  have hr := B.returns
  have hts := atoms_spec (ws := wsX4_countEdges) B.pre
  have hown : s.vm.findClass RX4 = some m.cls := findClass_of_methodNamed B.named
  have hlocks := B.notSynchronized
  subst hsz
  have hD := hD0.self (sz := s.heap.size)
  generalize hAe : va_A [(a2, .inr (10, [.ref a3, .ref a4, .ref a5, .ref a6, .ref a7, .int 0, .int 0])), (a1, .inr (9, [.ref a8, .ref a9, .int 0, .int 0]))] s.heap.size = A at hD hG ⊢
  have hA : ∀ q : Nat, s.heap.size ≤ q → A q := fun q h => by rw [← hAe]; exact Or.inr h
  have hS : va_S A s.heap s.heap [] := va_S.rf
  have hl := lv_entry ([.ref a1, .ref a2, .int p2]) (n := 6) (Nat.le_of_ble_eq_true rfl)
  rw [lg_entry_eq]
  generalize (lg_sl ([.ref a1, .ref a2, .int p2]) ++ List.replicate (6 - (lg_sl ([.ref a1, .ref a2, .int p2])).length) Slot.unset).toArray = ls at hl ⊢
  have hl : lv_has ls 6 [(0, .ref a1), (1, .ref a2), (2, .int p2)] := hl
  refine lv_iconst (v := 0) hx hb dX4_countEdges_0 (by decide) ?_
  refine lv_istore_n (lv' := [(3, .int 0), (0, .ref a1), (1, .ref a2), (2, .int p2)]) hx hb dX4_countEdges_1 rfl hl (by decide) rfl (fun ls hl => ?_)
  refine lv_iconst (v := 0) hx hb dX4_countEdges_2 (by decide) ?_
  refine lv_istore (lv' := [(4, .int 0), (3, .int 0), (0, .ref a1), (1, .ref a2), (2, .int p2)]) hx hb dX4_countEdges_3 hl (by decide) rfl (fun ls hl => ?_)
  refine xLoop (P := fun i_k_1 H locs ls => va_P (dC, dI) vwCl [(a2, .inr (10, [.ref a3, .ref a4, .ref a5, .ref a6, .ref a7, .int 0, .int 0])), (a1, .inr (9, [.ref a8, .ref a9, .int 0, .int 0]))] H ∧ va_D A [(a2, .inr (10, [.ref a3, .ref a4, .ref a5, .ref a6, .ref a7, .int 0, .int 0])), (a1, .inr (9, [.ref a8, .ref a9, .int 0, .int 0]))] ∧ va_S A s.heap H locs ∧ lv_has ls 6 [(4, .int (nI i_k_1)), (3, .int 0), (0, .ref a1), (1, .ref a2), (2, .int p2)]) (N := 12) (fun i_k_1 H locs ls hi_k_1 hI ih_k_1 => ?_) (0) _ _ _ (by omega) ⟨hP, hD, hS, lv_sub hl [0, 1, 2, 3, 4] rfl⟩
  obtain ⟨hP, hD, hS, hl⟩ := hI
  refine lv_iload hx hb dX4_countEdges_5 (lv_at hl 0 rfl) ?_
  refine lv_bipush (v := 12) hx hb dX4_countEdges_7 (by decide) ?_
  have hz_3 : (nI i_k_1).toInt = ((i_k_1 : Nat) : Int) := nI_toInt (by omega)
  refine lv_icmp_ge (tgt := 71) hx hb dX4_countEdges_9 (by decide) (fun c_2 => ?_) (fun c_2 => ?_)
  · have nc_2 : 12 ≤ (nI i_k_1).toInt := (xi_le (by decide +kernel) rfl).mp c_2
    refine lv_iload_n hx hb dX4_countEdges_71 rfl (lv_at hl 1 rfl) ?_
    have hP9 := hP.sub (ws' := [(a2, .inr (10, [.ref a3, .ref a4, .ref a5, .ref a6, .ref a7, .int 0, .int 0])), (a1, .inr (9, [.ref a8, .ref a9, .int 0, .int 0]))]) [0, 1] rfl
    have hD9 := hD.sub (ws' := [(a2, .inr (10, [.ref a3, .ref a4, .ref a5, .ref a6, .ref a7, .int 0, .int 0])), (a1, .inr (9, [.ref a8, .ref a9, .int 0, .int 0]))]) [0, 1] (by decide) rfl
    exact W.iret (v := 0) hx hb hr (fun t ht hW => ⟨⟨_, _, rfl, rfl, ⟨rfl, by rw [ht]; exact hP9, hD9⟩⟩, hS.F ht⟩) hS.2.2 dX4_countEdges_72
  · have nc_2 : ¬ (12 ≤ (nI i_k_1).toInt) := mt (xi_le (by decide +kernel) rfl).mpr c_2
    refine lv_iload hx hb dX4_countEdges_12 (lv_at hl 0 rfl) ?_
    refine lv_iconst (v := 1) hx hb dX4_countEdges_14 (by decide) ?_
    refine lv_iadd hx hb dX4_countEdges_15 ?_
    refine lv_topi (fun f_4 ef_4 => ?_)
    obtain rfl : f_4 = (nI (i_k_1 + 1)) := ef_4.trans (nI_add _ _)
    refine lv_istore (lv' := [(5, .int (nI (i_k_1 + 1))), (4, .int (nI i_k_1)), (3, .int 0), (0, .ref a1), (1, .ref a2), (2, .int p2)]) hx hb dX4_countEdges_16 hl (by decide) rfl (fun ls hl => ?_)
    refine xLoop (P := fun i_k_5 H locs ls => va_P (dC, dI) vwCl [(a2, .inr (10, [.ref a3, .ref a4, .ref a5, .ref a6, .ref a7, .int 0, .int 0])), (a1, .inr (9, [.ref a8, .ref a9, .int 0, .int 0]))] H ∧ va_D A [(a2, .inr (10, [.ref a3, .ref a4, .ref a5, .ref a6, .ref a7, .int 0, .int 0])), (a1, .inr (9, [.ref a8, .ref a9, .int 0, .int 0]))] ∧ va_S A s.heap H locs ∧ lv_has ls 6 [(5, .int (nI i_k_5)), (4, .int (nI i_k_1)), (3, .int 0), (0, .ref a1), (1, .ref a2), (2, .int p2)]) (N := 12) (fun i_k_5 H locs ls hi_k_5 hI ih_k_5 => ?_) (i_k_1 + 1) _ _ _ (by omega) ⟨hP, hD, hS, lv_sub hl [0, 1, 2, 3, 4, 5] rfl⟩
    obtain ⟨hP, hD, hS, hl⟩ := hI
    refine lv_iload hx hb dX4_countEdges_18 (lv_at hl 0 rfl) ?_
    refine lv_bipush (v := 12) hx hb dX4_countEdges_20 (by decide) ?_
    have hz_7 : (nI i_k_5).toInt = ((i_k_5 : Nat) : Int) := nI_toInt (by omega)
    refine lv_icmp_ge (tgt := 65) hx hb dX4_countEdges_22 (by decide) (fun c_6 => ?_) (fun c_6 => ?_)
    · have nc_6 : 12 ≤ (nI i_k_5).toInt := (xi_le (by decide +kernel) rfl).mp c_6
      refine lv_iinc (v := (nI (i_k_1 + 1))) (lv' := [(4, .int (nI (i_k_1 + 1))), (5, .int (nI i_k_5)), (3, .int 0), (0, .ref a1), (1, .ref a2), (2, .int p2)]) hx hb dX4_countEdges_65 hl (k := 1) rfl (nI_1 _) (by decide) rfl (fun ls hl => ?_)
      refine lv_goto (tgt := 5) hx hb dX4_countEdges_68 (by decide) ?_
      exact ih_k_1 _ _ _ (by omega) ⟨hP, hD, hS, lv_sub hl [0, 2, 3, 4, 5] rfl⟩
    · have nc_6 : ¬ (12 ≤ (nI i_k_5).toInt) := mt (xi_le (by decide +kernel) rfl).mpr c_6
      refine lv_aload_n hx hb dX4_countEdges_25 rfl (lv_at hl 4 rfl) ?_
      refine lv_iload hx hb dX4_countEdges_26 (lv_at hl 1 rfl) ?_
      have hPc := hP.sub (ws' := [(a2, .inr (10, [.ref a3, .ref a4, .ref a5, .ref a6, .ref a7, .int 0, .int 0]))]) [0] rfl
      have hDc := hD.sub (ws' := [(a2, .inr (10, [.ref a3, .ref a4, .ref a5, .ref a6, .ref a7, .int 0, .int 0]))]) [0] (by decide) rfl
      have hFc := va_free (wc := [(a2, .inr (10, [.ref a3, .ref a4, .ref a5, .ref a6, .ref a7, .int 0, .int 0]))]) hD hS hA [0] rfl
      refine va_calli (va_runV (As := [.int (nI i_k_1)]) (rest := []) ⟨hx, hb, hml, hown, hts⟩ (xcX5_has l hst dC dI T a2 a3 a4 a5 a6 a7 H.size (nI i_k_1)) (cwV 1 hts gX4_countEdges_X5_has rfl rfl rfl (by decide +kernel) ⟨Nat.le_of_ble_eq_true rfl, Nat.le_of_ble_eq_true rfl⟩) ⟨xBlind, va_recv hK hPc (ci := 10) (q0 := 0) rfl rfl, xCall hK hG hS hPc hDc hFc⟩ rfl rfl hl.1 rfl (lv_room (Nat.le_of_ble_eq_true rfl)) dX4_countEdges_28 ⟨Nat.le_of_ble_eq_true rfl, Nat.le_of_ble_eq_true rfl⟩) hS (fun q _ h => hFc q h) hFc (fun r_9 u t H locs ht hvm hw hB hz1 hk1 hS => ?_)
      subst hw
      rcases hB with ⟨hr_9, hP1, hD1⟩
      rw [ht] at hP1
      subst hr_9
      obtain ⟨hP, hD⟩ := va_join (wr := [(a1, .inr (9, [.ref a8, .ref a9, .int 0, .int 0]))]) (w1 := [(a2, .inr (10, [.ref a3, .ref a4, .ref a5, .ref a6, .ref a7, .int 0, .int 0]))]) hP hD [0] [1] rfl rfl (by decide) (by decide) hk1 hFc hP1 hD1
      have hP := hP.sub (ws' := [(a2, .inr (10, [.ref a3, .ref a4, .ref a5, .ref a6, .ref a7, .int 0, .int 0])), (a1, .inr (9, [.ref a8, .ref a9, .int 0, .int 0]))]) [1, 0] rfl
      have hD := hD.sub (ws' := [(a2, .inr (10, [.ref a3, .ref a4, .ref a5, .ref a6, .ref a7, .int 0, .int 0])), (a1, .inr (9, [.ref a8, .ref a9, .int 0, .int 0]))]) [1, 0] (by decide) rfl
      clear hPc hDc hFc hP1 hD1 hk1 hz1 ht hvm
      refine lv_if_eq (tgt := 59) hx hb dX4_countEdges_31 (by decide) (fun c_9 => ?_) (fun c_9 => absurd (by decide) c_9)
      refine lv_iinc (v := (nI (i_k_5 + 1))) (lv' := [(5, .int (nI (i_k_5 + 1))), (4, .int (nI i_k_1)), (3, .int 0), (0, .ref a1), (1, .ref a2), (2, .int p2)]) hx hb dX4_countEdges_59 hl (k := 0) rfl (nI_1 _) (by decide) rfl (fun ls hl => ?_)
      refine lv_goto (tgt := 18) hx hb dX4_countEdges_62 (by decide) ?_
      exact ih_k_5 _ _ _ (by omega) ⟨hP, hD, hS, lv_sub hl [0, 1, 2, 3, 4, 5] rfl⟩
set_option maxHeartbeats 4000000 in
set_option maxRecDepth 100000 in
theorem xcX11_countJoined (l : Launch) (hst : l.stackTraces = false) (dC : Nat → ClassId) (dI : Nat → Nat → Nat) (T : Nat → ClassId) (a1 : Nat) (a2 : Nat) (a3 : Nat) (a4 : Nat) (a5 : Nat) (a6 : Nat) (a7 : Nat) (a8 : Nat) (a9 : Nat) (a10 : Nat) (a11 : Nat) (a12 : Nat) (a13 : Nat) (a14 : Nat) (a15 : Nat) (a16 : Nat) (a20 : Nat) (a21 : Nat) (a22 : Nat) (sz : Nat) (p1 : Int32) : vx_Met l yX11_countJoined wsX11_countJoined ({ frames := 7, cells := 1, slots := 6, locals := 102 } : Room) (va_Pc [.ref a1, .int p1] (fun U => xB dC dI T [(a1, .inr (16, [.ref a2, .ref a3, .ref a4, .ref a5, .ref a6, .ref a7, .ref a8, .ref a9, .ref a10, .ref a11])), (a2, .inr (10, [.ref a12, .ref a13, .ref a14, .ref a15, .ref a16, .int 0, .int 0])), (a5, .inr (9, [.ref a20, .ref a21, .int 0, .int (-1)])), (a20, .inr (13, [.ref a22, .int 0])), (a22, .inl (T 0, 12, .inl (fun _ => 0))), (a21, .inl (T 0, 12, .inl (fun _ => 0)))] sz U)) (va_Qi (fun (r u : Int32) => r = u) (fun (u : Int32) (t : State) => ((p1.toInt = 103) ∨ ((¬ (p1.toInt = 103)) ∧ (p1.toInt = 114)) ∨ ((¬ (p1.toInt = 103)) ∧ (¬ (p1.toInt = 114)) ∧ (p1.toInt = 110)) ∨ ((¬ (p1.toInt = 103)) ∧ (¬ (p1.toInt = 114)) ∧ (¬ (p1.toInt = 110)) ∧ (p1.toInt = 116))) ∧ 0 = u ∧ xE dC dI [] (va_A [(a1, .inr (16, [.ref a2, .ref a3, .ref a4, .ref a5, .ref a6, .ref a7, .ref a8, .ref a9, .ref a10, .ref a11])), (a2, .inr (10, [.ref a12, .ref a13, .ref a14, .ref a15, .ref a16, .int 0, .int 0])), (a5, .inr (9, [.ref a20, .ref a21, .int 0, .int (-1)])), (a20, .inr (13, [.ref a22, .int 0])), (a22, .inl (T 0, 12, .inl (fun _ => 0))), (a21, .inl (T 0, 12, .inl (fun _ => 0)))] sz) t) (va_A [(a1, .inr (16, [.ref a2, .ref a3, .ref a4, .ref a5, .ref a6, .ref a7, .ref a8, .ref a9, .ref a10, .ref a11])), (a2, .inr (10, [.ref a12, .ref a13, .ref a14, .ref a15, .ref a16, .int 0, .int 0])), (a5, .inr (9, [.ref a20, .ref a21, .int 0, .int (-1)])), (a20, .inr (13, [.ref a22, .int 0])), (a22, .inl (T 0, 12, .inl (fun _ => 0))), (a21, .inl (T 0, 12, .inl (fun _ => 0)))] sz)) (vx_X (fun _ : Unit => True) (fun (E : String) (_ : Unit) (t : State) => ((¬ (p1.toInt = 103)) ∧ (¬ (p1.toInt = 114)) ∧ (¬ (p1.toInt = 110)) ∧ (¬ (p1.toInt = 116))) ∧ E = "java/lang/IllegalArgumentException" ∧ xE dC dI [] (va_A [(a1, .inr (16, [.ref a2, .ref a3, .ref a4, .ref a5, .ref a6, .ref a7, .ref a8, .ref a9, .ref a10, .ref a11])), (a2, .inr (10, [.ref a12, .ref a13, .ref a14, .ref a15, .ref a16, .int 0, .int 0])), (a5, .inr (9, [.ref a20, .ref a21, .int 0, .int (-1)])), (a20, .inr (13, [.ref a22, .int 0])), (a22, .inl (T 0, 12, .inl (fun _ => 0))), (a21, .inl (T 0, 12, .inl (fun _ => 0)))] sz) t) (va_A [(a1, .inr (16, [.ref a2, .ref a3, .ref a4, .ref a5, .ref a6, .ref a7, .ref a8, .ref a9, .ref a10, .ref a11])), (a2, .inr (10, [.ref a12, .ref a13, .ref a14, .ref a15, .ref a16, .int 0, .int 0])), (a5, .inr (9, [.ref a20, .ref a21, .int 0, .int (-1)])), (a20, .inr (13, [.ref a22, .int 0])), (a22, .inl (T 0, 12, .inl (fun _ => 0))), (a21, .inl (T 0, 12, .inl (fun _ => 0)))] sz)) 1 6 (va_A [(a1, .inr (16, [.ref a2, .ref a3, .ref a4, .ref a5, .ref a6, .ref a7, .ref a8, .ref a9, .ref a10, .ref a11])), (a2, .inr (10, [.ref a12, .ref a13, .ref a14, .ref a15, .ref a16, .int 0, .int 0])), (a5, .inr (9, [.ref a20, .ref a21, .int 0, .int (-1)])), (a20, .inr (13, [.ref a22, .int 0])), (a22, .inl (T 0, 12, .inl (fun _ => 0))), (a21, .inl (T 0, 12, .inl (fun _ => 0)))] sz) := by
  refine vx_ofW (cc := cX11_countJoined) (maxL := 2) (ret := (some .int)) (by decide +kernel) rfl ?_
  intro p e s m args below meth c s₁ B hml hex hv
  obtain ⟨rfl, hsz, hP, hK, hD0, hG⟩ := hv
  have hx := B.exec
  have hb := B.bytes
  have hr := B.returns
  have hts := atoms_spec (ws := wsX11_countJoined) B.pre
  have hown : s.vm.findClass RX11 = some m.cls := findClass_of_methodNamed B.named
  have hlocks := B.notSynchronized
  have hin_X11 : ∀ w ∈ wsX110, w ∈ wsX11_countJoined := by decide +kernel
  subst hsz
  have hD := hD0.self (sz := s.heap.size)
  generalize hAe : va_A [(a1, .inr (16, [.ref a2, .ref a3, .ref a4, .ref a5, .ref a6, .ref a7, .ref a8, .ref a9, .ref a10, .ref a11])), (a2, .inr (10, [.ref a12, .ref a13, .ref a14, .ref a15, .ref a16, .int 0, .int 0])), (a5, .inr (9, [.ref a20, .ref a21, .int 0, .int (-1)])), (a20, .inr (13, [.ref a22, .int 0])), (a22, .inl (T 0, 12, .inl (fun _ => 0))), (a21, .inl (T 0, 12, .inl (fun _ => 0)))] s.heap.size = A at hD hG ⊢
  have hA : ∀ q : Nat, s.heap.size ≤ q → A q := fun q h => by rw [← hAe]; exact Or.inr h
  have hS : va_S A s.heap s.heap [] := va_S.rf
  have hl := lv_entry ([.ref a1, .int p1]) (n := 2) (Nat.le_of_ble_eq_true rfl)
  rw [lg_entry_eq]
  generalize (lg_sl ([.ref a1, .int p1]) ++ List.replicate (2 - (lg_sl ([.ref a1, .int p1])).length) Slot.unset).toArray = ls at hl ⊢
  have hl : lv_has ls 2 [(0, .ref a1), (1, .int p1)] := hl
  refine lv_iload_n hx hb dX11_countJoined_0 rfl (lv_at hl 1 rfl) ?_
  have hPc := hP.sub (ws' := []) [] rfl
  have hDc := hD.sub (ws' := []) [] (by decide) rfl
  have hFc := va_free (wc := []) hD hS hA [] rfl
  refine vx_callv (vx_runS (As := [.int p1]) (rest := []) ⟨hx, hb, hml, hown, hts⟩ (xcX11_needGraph l hst dC dI T s.heap.size p1) (cwS 1 hts gX11_countJoined_X11_needGraph rfl rfl rfl (by decide +kernel) ⟨Nat.le_of_ble_eq_true rfl, Nat.le_of_ble_eq_true rfl⟩) ⟨xBlind, xCall hK hG hS hPc hDc hFc⟩ rfl rfl hl.1 rfl (lv_room (Nat.le_of_ble_eq_true rfl)) dX11_countJoined_1 ⟨Nat.le_of_ble_eq_true rfl, Nat.le_of_ble_eq_true rfl⟩) hS (fun q _ h => hFc q h) hFc (fun q _ h => hFc q h) (fun E ce q9 u t H locs ht hvm hw hB hz1 hk1 hS hce hcv hcl => ?_) (fun u t H locs ht hvm hw hB hz1 hk1 hS => ?_)
  · rcases hB with ⟨c_1, hE, hP1, hD1⟩
    subst hE
    rw [ht] at hP1
    obtain ⟨hP, hD⟩ := va_join (wr := [(a1, .inr (16, [.ref a2, .ref a3, .ref a4, .ref a5, .ref a6, .ref a7, .ref a8, .ref a9, .ref a10, .ref a11])), (a2, .inr (10, [.ref a12, .ref a13, .ref a14, .ref a15, .ref a16, .int 0, .int 0])), (a5, .inr (9, [.ref a20, .ref a21, .int 0, .int (-1)])), (a20, .inr (13, [.ref a22, .int 0])), (a22, .inl (T 0, 12, .inl (fun _ => 0))), (a21, .inl (T 0, 12, .inl (fun _ => 0)))]) (w1 := []) hP hD [] [0, 1, 2, 3, 4, 5] rfl rfl (by decide) (by decide) hk1 hFc hP1 hD1
    have hP : va_P (dC, dI) vwCl [(a1, .inr (16, [.ref a2, .ref a3, .ref a4, .ref a5, .ref a6, .ref a7, .ref a8, .ref a9, .ref a10, .ref a11])), (a2, .inr (10, [.ref a12, .ref a13, .ref a14, .ref a15, .ref a16, .int 0, .int 0])), (a5, .inr (9, [.ref a20, .ref a21, .int 0, .int (-1)])), (a20, .inr (13, [.ref a22, .int 0])), (a22, .inl (T 0, 12, .inl (fun _ => 0))), (a21, .inl (T 0, 12, .inl (fun _ => 0)))] H := hP
    have hD : va_D A [(a1, .inr (16, [.ref a2, .ref a3, .ref a4, .ref a5, .ref a6, .ref a7, .ref a8, .ref a9, .ref a10, .ref a11])), (a2, .inr (10, [.ref a12, .ref a13, .ref a14, .ref a15, .ref a16, .int 0, .int 0])), (a5, .inr (9, [.ref a20, .ref a21, .int 0, .int (-1)])), (a20, .inr (13, [.ref a22, .int 0])), (a22, .inl (T 0, 12, .inl (fun _ => 0))), (a21, .inl (T 0, 12, .inl (fun _ => 0)))] := hD
    clear hPc hDc hFc hP1 hD1 hk1 hz1 ht hvm
    have hP9 := hP.sub (ws' := []) [] rfl
    have hD9 := hD.sub (ws' := []) [] (by decide) rfl
    exact vx_out (fun x hx => absurd (hex x hx) id) hlocks hce hcv hcl (fun t ht _ => ⟨(), trivial, ⟨c_1, rfl, by rw [ht]; exact hP9, hD9⟩, hS.F ht⟩) hS.2.2 (Nat.le_of_ble_eq_true rfl) (Nat.le_of_ble_eq_true rfl)
  · rcases hB with ⟨c_2, hP1, hD1⟩
    rw [ht] at hP1
    obtain ⟨hP, hD⟩ := va_join (wr := [(a1, .inr (16, [.ref a2, .ref a3, .ref a4, .ref a5, .ref a6, .ref a7, .ref a8, .ref a9, .ref a10, .ref a11])), (a2, .inr (10, [.ref a12, .ref a13, .ref a14, .ref a15, .ref a16, .int 0, .int 0])), (a5, .inr (9, [.ref a20, .ref a21, .int 0, .int (-1)])), (a20, .inr (13, [.ref a22, .int 0])), (a22, .inl (T 0, 12, .inl (fun _ => 0))), (a21, .inl (T 0, 12, .inl (fun _ => 0)))]) (w1 := []) hP hD [] [0, 1, 2, 3, 4, 5] rfl rfl (by decide) (by decide) hk1 hFc hP1 hD1
    have hP : va_P (dC, dI) vwCl [(a1, .inr (16, [.ref a2, .ref a3, .ref a4, .ref a5, .ref a6, .ref a7, .ref a8, .ref a9, .ref a10, .ref a11])), (a2, .inr (10, [.ref a12, .ref a13, .ref a14, .ref a15, .ref a16, .int 0, .int 0])), (a5, .inr (9, [.ref a20, .ref a21, .int 0, .int (-1)])), (a20, .inr (13, [.ref a22, .int 0])), (a22, .inl (T 0, 12, .inl (fun _ => 0))), (a21, .inl (T 0, 12, .inl (fun _ => 0)))] H := hP
    have hD : va_D A [(a1, .inr (16, [.ref a2, .ref a3, .ref a4, .ref a5, .ref a6, .ref a7, .ref a8, .ref a9, .ref a10, .ref a11])), (a2, .inr (10, [.ref a12, .ref a13, .ref a14, .ref a15, .ref a16, .int 0, .int 0])), (a5, .inr (9, [.ref a20, .ref a21, .int 0, .int (-1)])), (a20, .inr (13, [.ref a22, .int 0])), (a22, .inl (T 0, 12, .inl (fun _ => 0))), (a21, .inl (T 0, 12, .inl (fun _ => 0)))] := hD
    clear hPc hDc hFc hP1 hD1 hk1 hz1 ht hvm
    refine lv_aload_n hx hb dX11_countJoined_4 rfl (lv_at hl 0 rfl) ?_
    refine va_get (D := (dC, dI)) (ci := 16) (v := .ref a5) (C := RX11) (T := TX11) (N := 10) hx hb hts hin_X11 hown hK hP 0 rfl rfl 3 (by decide) (hts (.fieldLink RX11 33 "Nearestward" "graphs" "LNearestward$Graphs;") (by decide +kernel)) (fun _ h9 => h9) rfl dX11_countJoined_5 ?_
    refine lv_aload_n hx hb dX11_countJoined_8 rfl (lv_at hl 0 rfl) ?_
    refine va_get (D := (dC, dI)) (ci := 16) (v := .ref a2) (C := RX11) (T := TX11) (N := 10) hx hb hts hin_X11 hown hK hP 0 rfl rfl 0 (by decide) (hts (.fieldLink RX11 12 "Nearestward" "ground" "LNearestward$Ground;") (by decide +kernel)) (fun _ h9 => h9) rfl dX11_countJoined_9 ?_
    have hPc := hP.sub (ws' := [(a2, .inr (10, [.ref a12, .ref a13, .ref a14, .ref a15, .ref a16, .int 0, .int 0])), (a5, .inr (9, [.ref a20, .ref a21, .int 0, .int (-1)])), (a20, .inr (13, [.ref a22, .int 0])), (a22, .inl (T 0, 12, .inl (fun _ => 0))), (a21, .inl (T 0, 12, .inl (fun _ => 0)))]) [1, 2, 3, 4, 5] rfl
    have hDc := hD.sub (ws' := [(a2, .inr (10, [.ref a12, .ref a13, .ref a14, .ref a15, .ref a16, .int 0, .int 0])), (a5, .inr (9, [.ref a20, .ref a21, .int 0, .int (-1)])), (a20, .inr (13, [.ref a22, .int 0])), (a22, .inl (T 0, 12, .inl (fun _ => 0))), (a21, .inl (T 0, 12, .inl (fun _ => 0)))]) [1, 2, 3, 4, 5] (by decide) rfl
    have hFc := va_free (wc := [(a2, .inr (10, [.ref a12, .ref a13, .ref a14, .ref a15, .ref a16, .int 0, .int 0])), (a5, .inr (9, [.ref a20, .ref a21, .int 0, .int (-1)])), (a20, .inr (13, [.ref a22, .int 0])), (a22, .inl (T 0, 12, .inl (fun _ => 0))), (a21, .inl (T 0, 12, .inl (fun _ => 0)))]) hD hS hA [1, 2, 3, 4, 5] rfl
    refine va_callv (va_runV (As := [.ref a2]) (rest := []) ⟨hx, hb, hml, hown, hts⟩ (xcX4_growTree l hst dC dI T a5 a2 a12 a13 a14 a15 a16 a20 a21 a22 H.size) (cwV 1 hts gX11_countJoined_X4_growTree rfl rfl rfl (by decide +kernel) ⟨Nat.le_of_ble_eq_true rfl, Nat.le_of_ble_eq_true rfl⟩) ⟨xBlind, va_recv hK hPc (ci := 9) (q0 := 1) rfl rfl, xCall hK hG hS hPc hDc hFc⟩ rfl rfl hl.1 rfl (lv_room (Nat.le_of_ble_eq_true rfl)) dX11_countJoined_12 ⟨Nat.le_of_ble_eq_true rfl, Nat.le_of_ble_eq_true rfl⟩) hS (fun q _ h => hFc q h) hFc (fun u t H locs ht hvm hw hB hz1 hk1 hS => ?_)
    rcases hB with ⟨g_3, hP1, hD1⟩
    rw [ht] at hP1
    obtain ⟨hP, hD⟩ := va_join (wr := [(a1, .inr (16, [.ref a2, .ref a3, .ref a4, .ref a5, .ref a6, .ref a7, .ref a8, .ref a9, .ref a10, .ref a11]))]) (w1 := [(a2, .inr (10, [.ref a12, .ref a13, .ref a14, .ref a15, .ref a16, .int 0, .int 0])), (a5, .inr (9, [.ref a20, .ref a21, .int 0, .int 0])), (a20, .inr (13, [.ref a22, .int 0])), (a22, .inl (T 0, 12, .inl g_3)), (a21, .inl (T 0, 12, .inl (fun _ => 0)))]) hP hD [1, 2, 3, 4, 5] [0] rfl rfl (by decide) (by decide) hk1 hFc hP1 hD1
    have hP : va_P (dC, dI) vwCl [(a1, .inr (16, [.ref a2, .ref a3, .ref a4, .ref a5, .ref a6, .ref a7, .ref a8, .ref a9, .ref a10, .ref a11])), (a2, .inr (10, [.ref a12, .ref a13, .ref a14, .ref a15, .ref a16, .int 0, .int 0])), (a5, .inr (9, [.ref a20, .ref a21, .int 0, .int 0])), (a20, .inr (13, [.ref a22, .int 0])), (a22, .inl (T 0, 12, .inl g_3)), (a21, .inl (T 0, 12, .inl (fun _ => 0)))] H := hP
    have hD : va_D A [(a1, .inr (16, [.ref a2, .ref a3, .ref a4, .ref a5, .ref a6, .ref a7, .ref a8, .ref a9, .ref a10, .ref a11])), (a2, .inr (10, [.ref a12, .ref a13, .ref a14, .ref a15, .ref a16, .int 0, .int 0])), (a5, .inr (9, [.ref a20, .ref a21, .int 0, .int 0])), (a20, .inr (13, [.ref a22, .int 0])), (a22, .inl (T 0, 12, .inl g_3)), (a21, .inl (T 0, 12, .inl (fun _ => 0)))] := hD
    clear hPc hDc hFc hP1 hD1 hk1 hz1 ht hvm
    refine lv_aload_n hx hb dX11_countJoined_15 rfl (lv_at hl 0 rfl) ?_
    refine va_get (D := (dC, dI)) (ci := 16) (v := .ref a5) (C := RX11) (T := TX11) (N := 10) hx hb hts hin_X11 hown hK hP 0 rfl rfl 3 (by decide) (hts (.fieldLink RX11 33 "Nearestward" "graphs" "LNearestward$Graphs;") (by decide +kernel)) (fun _ h9 => h9) rfl dX11_countJoined_16 ?_
    refine lv_aload_n hx hb dX11_countJoined_19 rfl (lv_at hl 0 rfl) ?_
    refine va_get (D := (dC, dI)) (ci := 16) (v := .ref a2) (C := RX11) (T := TX11) (N := 10) hx hb hts hin_X11 hown hK hP 0 rfl rfl 0 (by decide) (hts (.fieldLink RX11 12 "Nearestward" "ground" "LNearestward$Ground;") (by decide +kernel)) (fun _ h9 => h9) rfl dX11_countJoined_20 ?_
    refine lv_iload_n hx hb dX11_countJoined_23 rfl (lv_at hl 1 rfl) ?_
    have hPc := hP.sub (ws' := [(a2, .inr (10, [.ref a12, .ref a13, .ref a14, .ref a15, .ref a16, .int 0, .int 0])), (a5, .inr (9, [.ref a20, .ref a21, .int 0, .int 0]))]) [1, 2] rfl
    have hDc := hD.sub (ws' := [(a2, .inr (10, [.ref a12, .ref a13, .ref a14, .ref a15, .ref a16, .int 0, .int 0])), (a5, .inr (9, [.ref a20, .ref a21, .int 0, .int 0]))]) [1, 2] (by decide) rfl
    have hFc := va_free (wc := [(a2, .inr (10, [.ref a12, .ref a13, .ref a14, .ref a15, .ref a16, .int 0, .int 0])), (a5, .inr (9, [.ref a20, .ref a21, .int 0, .int 0]))]) hD hS hA [1, 2] rfl
    refine va_calli (va_runV (As := [.ref a2, .int p1]) (rest := []) ⟨hx, hb, hml, hown, hts⟩ (xcX4_countEdges l hst dC dI T a5 a2 a12 a13 a14 a15 a16 a20 a21 H.size p1) (cwV 2 hts gX11_countJoined_X4_countEdges rfl rfl rfl (by decide +kernel) ⟨Nat.le_of_ble_eq_true rfl, Nat.le_of_ble_eq_true rfl⟩) ⟨xBlind, va_recv hK hPc (ci := 9) (q0 := 1) rfl rfl, xCall hK hG hS hPc hDc hFc⟩ rfl rfl hl.1 rfl (lv_room (Nat.le_of_ble_eq_true rfl)) dX11_countJoined_24 ⟨Nat.le_of_ble_eq_true rfl, Nat.le_of_ble_eq_true rfl⟩) hS (fun q _ h => hFc q h) hFc (fun r_9 u t H locs ht hvm hw hB hz1 hk1 hS => ?_)
    subst hw
    rcases hB with ⟨hr_9, hP1, hD1⟩
    rw [ht] at hP1
    subst hr_9
    obtain ⟨hP, hD⟩ := va_join (wr := [(a1, .inr (16, [.ref a2, .ref a3, .ref a4, .ref a5, .ref a6, .ref a7, .ref a8, .ref a9, .ref a10, .ref a11])), (a20, .inr (13, [.ref a22, .int 0])), (a22, .inl (T 0, 12, .inl g_3)), (a21, .inl (T 0, 12, .inl (fun _ => 0)))]) (w1 := [(a2, .inr (10, [.ref a12, .ref a13, .ref a14, .ref a15, .ref a16, .int 0, .int 0])), (a5, .inr (9, [.ref a20, .ref a21, .int 0, .int 0]))]) hP hD [1, 2] [0, 3, 4, 5] rfl rfl (by decide) (by decide) hk1 hFc hP1 hD1
    have hP := hP.sub (ws' := [(a1, .inr (16, [.ref a2, .ref a3, .ref a4, .ref a5, .ref a6, .ref a7, .ref a8, .ref a9, .ref a10, .ref a11])), (a2, .inr (10, [.ref a12, .ref a13, .ref a14, .ref a15, .ref a16, .int 0, .int 0])), (a5, .inr (9, [.ref a20, .ref a21, .int 0, .int 0])), (a20, .inr (13, [.ref a22, .int 0])), (a22, .inl (T 0, 12, .inl g_3)), (a21, .inl (T 0, 12, .inl (fun _ => 0)))]) [0, 4, 5, 1, 2, 3] rfl
    have hD := hD.sub (ws' := [(a1, .inr (16, [.ref a2, .ref a3, .ref a4, .ref a5, .ref a6, .ref a7, .ref a8, .ref a9, .ref a10, .ref a11])), (a2, .inr (10, [.ref a12, .ref a13, .ref a14, .ref a15, .ref a16, .int 0, .int 0])), (a5, .inr (9, [.ref a20, .ref a21, .int 0, .int 0])), (a20, .inr (13, [.ref a22, .int 0])), (a22, .inl (T 0, 12, .inl g_3)), (a21, .inl (T 0, 12, .inl (fun _ => 0)))]) [0, 4, 5, 1, 2, 3] (by decide) rfl
    clear hPc hDc hFc hP1 hD1 hk1 hz1 ht hvm
    refine vx_ret ?_
    have hP9 := hP.sub (ws' := []) [] rfl
    have hD9 := hD.sub (ws' := []) [] (by decide) rfl
    exact W.iret (v := 0) hx hb hr (fun t ht hW => ⟨⟨_, _, rfl, rfl, ⟨c_2, rfl, by rw [ht]; exact hP9, hD9⟩⟩, hS.F ht⟩) hS.2.2 dX11_countJoined_27
set_option maxHeartbeats 4000000 in
set_option maxRecDepth 100000 in
theorem xcL_countJoined (l : Launch) (hst : l.stackTraces = false) (dC : Nat → ClassId) (dI : Nat → Nat → Nat) (T : Nat → ClassId) (a1 : Nat) (a2 : Nat) (a3 : Nat) (a4 : Nat) (a5 : Nat) (a6 : Nat) (a7 : Nat) (a8 : Nat) (a9 : Nat) (a10 : Nat) (a11 : Nat) (a12 : Nat) (a13 : Nat) (a14 : Nat) (a15 : Nat) (a16 : Nat) (a17 : Nat) (a21 : Nat) (a22 : Nat) (a23 : Nat) (sz : Nat) (p1 : Int32) : Met l yL_countJoined wsL_countJoined ({ frames := 8, cells := 1, slots := 6, locals := 123 } : Room) (va_Pc [.ref a1, .int p1, .ref a2] (fun U => xB dC dI T [(a1, .inr (16, [.ref a3, .ref a4, .ref a5, .ref a6, .ref a7, .ref a8, .ref a9, .ref a10, .ref a11, .ref a12])), (a3, .inr (10, [.ref a13, .ref a14, .ref a15, .ref a16, .ref a17, .int 0, .int 0])), (a6, .inr (9, [.ref a21, .ref a22, .int 0, .int (-1)])), (a21, .inr (13, [.ref a23, .int 0])), (a23, .inl (T 0, 12, .inl (fun _ => 0))), (a22, .inl (T 0, 12, .inl (fun _ => 0))), (a2, .inl (T 5, 1, .inr (.inl (fun _ => 0))))] sz U)) (va_Qi (fun (r u : Int32) => r = u) (fun (u : Int32) (t : State) => (((¬ (p1.toInt = 103)) ∧ (¬ (p1.toInt = 114)) ∧ (¬ (p1.toInt = 110)) ∧ (¬ (p1.toInt = 116))) ∧ 1 = u ∧ xE dC dI [(a2, .inl (T 5, 1, .inr (.inl (fun _ => 0))))] (va_A [(a1, .inr (16, [.ref a3, .ref a4, .ref a5, .ref a6, .ref a7, .ref a8, .ref a9, .ref a10, .ref a11, .ref a12])), (a3, .inr (10, [.ref a13, .ref a14, .ref a15, .ref a16, .ref a17, .int 0, .int 0])), (a6, .inr (9, [.ref a21, .ref a22, .int 0, .int (-1)])), (a21, .inr (13, [.ref a23, .int 0])), (a23, .inl (T 0, 12, .inl (fun _ => 0))), (a22, .inl (T 0, 12, .inl (fun _ => 0))), (a2, .inl (T 5, 1, .inr (.inl (fun _ => 0))))] sz) t) ∨ (((p1.toInt = 103) ∨ ((¬ (p1.toInt = 103)) ∧ (p1.toInt = 114)) ∨ ((¬ (p1.toInt = 103)) ∧ (¬ (p1.toInt = 114)) ∧ (p1.toInt = 110)) ∨ ((¬ (p1.toInt = 103)) ∧ (¬ (p1.toInt = 114)) ∧ (¬ (p1.toInt = 110)) ∧ (p1.toInt = 116))) ∧ 0 = u ∧ xE dC dI [(a2, .inl (T 5, 1, .inr (.inl (vp_updL (fun _ => 0) (0 : Int32).toNatClampNeg 0))))] (va_A [(a1, .inr (16, [.ref a3, .ref a4, .ref a5, .ref a6, .ref a7, .ref a8, .ref a9, .ref a10, .ref a11, .ref a12])), (a3, .inr (10, [.ref a13, .ref a14, .ref a15, .ref a16, .ref a17, .int 0, .int 0])), (a6, .inr (9, [.ref a21, .ref a22, .int 0, .int (-1)])), (a21, .inr (13, [.ref a23, .int 0])), (a23, .inl (T 0, 12, .inl (fun _ => 0))), (a22, .inl (T 0, 12, .inl (fun _ => 0))), (a2, .inl (T 5, 1, .inr (.inl (fun _ => 0))))] sz) t)) (va_A [(a1, .inr (16, [.ref a3, .ref a4, .ref a5, .ref a6, .ref a7, .ref a8, .ref a9, .ref a10, .ref a11, .ref a12])), (a3, .inr (10, [.ref a13, .ref a14, .ref a15, .ref a16, .ref a17, .int 0, .int 0])), (a6, .inr (9, [.ref a21, .ref a22, .int 0, .int (-1)])), (a21, .inr (13, [.ref a23, .int 0])), (a23, .inl (T 0, 12, .inl (fun _ => 0))), (a22, .inl (T 0, 12, .inl (fun _ => 0))), (a2, .inl (T 5, 1, .inr (.inl (fun _ => 0))))] sz)) 1 6 (va_A [(a1, .inr (16, [.ref a3, .ref a4, .ref a5, .ref a6, .ref a7, .ref a8, .ref a9, .ref a10, .ref a11, .ref a12])), (a3, .inr (10, [.ref a13, .ref a14, .ref a15, .ref a16, .ref a17, .int 0, .int 0])), (a6, .inr (9, [.ref a21, .ref a22, .int 0, .int (-1)])), (a21, .inr (13, [.ref a23, .int 0])), (a23, .inl (T 0, 12, .inl (fun _ => 0))), (a22, .inl (T 0, 12, .inl (fun _ => 0))), (a2, .inl (T 5, 1, .inr (.inl (fun _ => 0))))] sz) := by
  refine va_MetW (cc := cL_countJoined) (maxL := 4) (ret := (some .int)) (hh := [(0, 9, 12, 13)]) (by decide +kernel) rfl ?_
  intro p e s m args below meth c s₁ B hml hv
  obtain ⟨rfl, hsz, hP, hK, hD0, hG⟩ := hv
  have hx := B.exec
  have hb := B.bytes
  have hr := B.returns
  have hts := atoms_spec (ws := wsL_countJoined) B.pre
  have hown : s.vm.findClass RL = some m.cls := findClass_of_methodNamed B.named
  have hlocks := B.notSynchronized
  have htab := vx_table (x := yL_countJoined) B (hts (.codeWith yL_countJoined cL_countJoined 4 (some .int) [(0, 9, 12, 13)]) (by decide +kernel))
  subst hsz
  have hD := hD0.self (sz := s.heap.size)
  generalize hAe : va_A [(a1, .inr (16, [.ref a3, .ref a4, .ref a5, .ref a6, .ref a7, .ref a8, .ref a9, .ref a10, .ref a11, .ref a12])), (a3, .inr (10, [.ref a13, .ref a14, .ref a15, .ref a16, .ref a17, .int 0, .int 0])), (a6, .inr (9, [.ref a21, .ref a22, .int 0, .int (-1)])), (a21, .inr (13, [.ref a23, .int 0])), (a23, .inl (T 0, 12, .inl (fun _ => 0))), (a22, .inl (T 0, 12, .inl (fun _ => 0))), (a2, .inl (T 5, 1, .inr (.inl (fun _ => 0))))] s.heap.size = A at hD hG ⊢
  have hA : ∀ q : Nat, s.heap.size ≤ q → A q := fun q h => by rw [← hAe]; exact Or.inr h
  have hS : va_S A s.heap s.heap [] := va_S.rf
  have hl := lv_entry ([.ref a1, .int p1, .ref a2]) (n := 4) (Nat.le_of_ble_eq_true rfl)
  rw [lg_entry_eq]
  generalize (lg_sl ([.ref a1, .int p1, .ref a2]) ++ List.replicate (4 - (lg_sl ([.ref a1, .int p1, .ref a2])).length) Slot.unset).toArray = ls at hl ⊢
  have hl : lv_has ls 4 [(0, .ref a1), (1, .int p1), (2, .ref a2)] := hl
  refine lv_aload_n hx hb dL_countJoined_0 rfl (lv_at hl 2 rfl) ?_
  refine lv_iconst (v := 0) hx hb dL_countJoined_1 (by decide) ?_
  refine lv_aload_n hx hb dL_countJoined_2 rfl (lv_at hl 0 rfl) ?_
  refine lv_iload_n hx hb dL_countJoined_3 rfl (lv_at hl 1 rfl) ?_
  have hPc := hP.sub (ws' := [(a1, .inr (16, [.ref a3, .ref a4, .ref a5, .ref a6, .ref a7, .ref a8, .ref a9, .ref a10, .ref a11, .ref a12])), (a3, .inr (10, [.ref a13, .ref a14, .ref a15, .ref a16, .ref a17, .int 0, .int 0])), (a6, .inr (9, [.ref a21, .ref a22, .int 0, .int (-1)])), (a21, .inr (13, [.ref a23, .int 0])), (a23, .inl (T 0, 12, .inl (fun _ => 0))), (a22, .inl (T 0, 12, .inl (fun _ => 0)))]) [0, 1, 2, 3, 4, 5] rfl
  have hDc := hD.sub (ws' := [(a1, .inr (16, [.ref a3, .ref a4, .ref a5, .ref a6, .ref a7, .ref a8, .ref a9, .ref a10, .ref a11, .ref a12])), (a3, .inr (10, [.ref a13, .ref a14, .ref a15, .ref a16, .ref a17, .int 0, .int 0])), (a6, .inr (9, [.ref a21, .ref a22, .int 0, .int (-1)])), (a21, .inr (13, [.ref a23, .int 0])), (a23, .inl (T 0, 12, .inl (fun _ => 0))), (a22, .inl (T 0, 12, .inl (fun _ => 0)))]) [0, 1, 2, 3, 4, 5] (by decide) rfl
  have hFc := va_free (wc := [(a1, .inr (16, [.ref a3, .ref a4, .ref a5, .ref a6, .ref a7, .ref a8, .ref a9, .ref a10, .ref a11, .ref a12])), (a3, .inr (10, [.ref a13, .ref a14, .ref a15, .ref a16, .ref a17, .int 0, .int 0])), (a6, .inr (9, [.ref a21, .ref a22, .int 0, .int (-1)])), (a21, .inr (13, [.ref a23, .int 0])), (a23, .inl (T 0, 12, .inl (fun _ => 0))), (a22, .inl (T 0, 12, .inl (fun _ => 0)))]) hD hS hA [0, 1, 2, 3, 4, 5] rfl
  refine vx_calli (vx_runV (As := [.int p1]) (rest := [.int 0, .ref a2]) ⟨hx, hb, hml, hown, hts⟩ (xcX11_countJoined l hst dC dI T a1 a3 a4 a5 a6 a7 a8 a9 a10 a11 a12 a13 a14 a15 a16 a17 a21 a22 a23 s.heap.size p1) (cwV 1 hts gL_countJoined_X11_countJoined rfl rfl rfl (by decide +kernel) ⟨Nat.le_of_ble_eq_true rfl, Nat.le_of_ble_eq_true rfl⟩) ⟨xBlind, va_recv hK hPc (ci := 16) (q0 := 0) rfl rfl, xCall hK hG hS hPc hDc hFc⟩ rfl rfl hl.1 rfl (lv_room (Nat.le_of_ble_eq_true rfl)) dL_countJoined_4 ⟨Nat.le_of_ble_eq_true rfl, Nat.le_of_ble_eq_true rfl⟩) hS (fun q _ h => hFc q h) hFc (fun q _ h => hFc q h) (fun E ce q9 u t H locs ht hvm hw hB hz1 hk1 hS hce hcv hcl => ?_) (fun r_9 u t H locs ht hvm hw hB hz1 hk1 hS => ?_)
  · rcases hB with ⟨c_1, hE, hP1, hD1⟩
    subst hE
    rw [ht] at hP1
    obtain ⟨hP, hD⟩ := va_join (wr := [(a2, .inl (T 5, 1, .inr (.inl (fun _ => 0))))]) (w1 := []) hP hD [0, 1, 2, 3, 4, 5] [6] rfl rfl (by decide) (by decide) hk1 hFc hP1 hD1
    have hP : va_P (dC, dI) vwCl [(a2, .inl (T 5, 1, .inr (.inl (fun _ => 0))))] H := hP
    have hD : va_D A [(a2, .inl (T 5, 1, .inr (.inl (fun _ => 0))))] := hD
    clear hPc hDc hFc hP1 hD1 hk1 hz1 ht hvm
    refine vx_catch (E := "java/lang/IllegalArgumentException") (name := "java/lang/IllegalArgumentException") hown [] ⟨0, 9, 12, 13⟩ [] (htab.trans rfl) (fun _ h => absurd h List.not_mem_nil) (by decide) (by decide) (hts (.classLink RL 13 "java/lang/IllegalArgumentException") (by decide +kernel)) (xBad_use hG.2.2.2.1 _ (by decide +kernel)) hce hcv hcl ?_
    refine lv_astore_n (lv' := [(3, .ref q9), (0, .ref a1), (1, .int p1), (2, .ref a2)]) hx hb dL_countJoined_12 rfl hl (by decide) rfl (fun ls hl => ?_)
    refine lv_iconst (v := 1) hx hb dL_countJoined_13 (by decide) ?_
    have hP9 := hP.sub (ws' := [(a2, .inl (T 5, 1, .inr (.inl (fun _ => 0))))]) [0] rfl
    have hD9 := hD.sub (ws' := [(a2, .inl (T 5, 1, .inr (.inl (fun _ => 0))))]) [0] (by decide) rfl
    exact W.iret (v := 1) hx hb hr (fun t ht hW => ⟨⟨_, _, rfl, rfl, (Or.inl ⟨c_1, rfl, by rw [ht]; exact hP9, hD9⟩)⟩, hS.F ht⟩) hS.2.2 dL_countJoined_14
  · subst hw
    rcases hB with ⟨c_2, hr_9, hP1, hD1⟩
    rw [ht] at hP1
    subst hr_9
    obtain ⟨hP, hD⟩ := va_join (wr := [(a2, .inl (T 5, 1, .inr (.inl (fun _ => 0))))]) (w1 := []) hP hD [0, 1, 2, 3, 4, 5] [6] rfl rfl (by decide) (by decide) hk1 hFc hP1 hD1
    have hP : va_P (dC, dI) vwCl [(a2, .inl (T 5, 1, .inr (.inl (fun _ => 0))))] H := hP
    have hD : va_D A [(a2, .inl (T 5, 1, .inr (.inl (fun _ => 0))))] := hD
    clear hPc hDc hFc hP1 hD1 hk1 hz1 ht hvm
    refine lv_i2l (v := 0) hx hb dL_countJoined_7 (by decide) ?_
    refine va_last hx hb hK hP hD hS 0 5 rfl rfl (show vp_in 0 1 by unfold vp_in; decide) dL_countJoined_8 (fun H locs hP hD hS => ?_)
    have hP : va_P (dC, dI) vwCl [(a2, .inl (T 5, 1, .inr (.inl (vp_updL (fun _ => 0) (0 : Int32).toNatClampNeg 0))))] H := hP
    have hD : va_D A [(a2, .inl (T 5, 1, .inr (.inl (vp_updL (fun _ => 0) (0 : Int32).toNatClampNeg 0))))] := hD
    refine lv_goto (tgt := 15) hx hb dL_countJoined_9 (by decide) ?_
    refine lv_iconst (v := 0) hx hb dL_countJoined_15 (by decide) ?_
    have hP9 := hP.sub (ws' := [(a2, .inl (T 5, 1, .inr (.inl (vp_updL (fun _ => 0) (0 : Int32).toNatClampNeg 0))))]) [0] rfl
    have hD9 := hD.sub (ws' := [(a2, .inl (T 5, 1, .inr (.inl (vp_updL (fun _ => 0) (0 : Int32).toNatClampNeg 0))))]) [0] (by decide) rfl
    exact W.iret (v := 0) hx hb hr (fun t ht hW => ⟨⟨_, _, rfl, rfl, (Or.inr (⟨c_2, rfl, by rw [ht]; exact hP9, hD9⟩))⟩, hS.F ht⟩) hS.2.2 dL_countJoined_16
