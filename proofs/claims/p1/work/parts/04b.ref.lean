set_option maxHeartbeats 4000000 in
set_option maxRecDepth 100000 in
theorem xcX12_countHull (l : Launch) (hst : l.stackTraces = false) (dC : Nat → ClassId) (dI : Nat → Nat → Nat) (T : Nat → ClassId) (a1 : Nat) (a2 : Nat) (a3 : Nat) (a4 : Nat) (sz : Nat) : Met l yX12_countHull wsX12_countHull ({ frames := 5, cells := 1, slots := 3, locals := 99 } : Room) (va_Pc [.ref a1] (fun U => xB dC dI T [(a1, .inr (17, [.int 0, .ref a2, .ref a3, .ref a4, .long 0])), (a2, .inl (T 2, 12, .inr (.inr (.inr (.inr (fun _ => none))))))] sz U)) (va_Qi (fun (r u : Int32) => r = u) (fun (u : Int32) (t : State) => 0 = u ∧ xE dC dI [(a1, .inr (17, [.int 0, .ref a2, .ref a3, .ref a4, .long 0]))] (va_A [(a1, .inr (17, [.int 0, .ref a2, .ref a3, .ref a4, .long 0])), (a2, .inl (T 2, 12, .inr (.inr (.inr (.inr (fun _ => none))))))] sz) t) (va_A [(a1, .inr (17, [.int 0, .ref a2, .ref a3, .ref a4, .long 0])), (a2, .inl (T 2, 12, .inr (.inr (.inr (.inr (fun _ => none))))))] sz)) 1 3 (va_A [(a1, .inr (17, [.int 0, .ref a2, .ref a3, .ref a4, .long 0])), (a2, .inl (T 2, 12, .inr (.inr (.inr (.inr (fun _ => none))))))] sz) := by
  refine Met.ofW (cc := cX12_countHull) (maxL := 1) (ret := (some .int)) (by decide +kernel) rfl ?_
  intro p e s m args below meth c s₁ B hml hv
  obtain ⟨rfl, hsz, hP, hK, hD0, hG⟩ := hv
  have hx := B.exec
  have hb := B.bytes
  have hr := B.returns
  have hts := atoms_spec (ws := wsX12_countHull) B.pre
  have hown : s.vm.findClass RX12 = some m.cls := findClass_of_methodNamed B.named
  have hlocks := B.notSynchronized
  have hin_X12 : ∀ w ∈ wsX120, w ∈ wsX12_countHull := by decide +kernel
  subst hsz
  have hD := hD0.self (sz := s.heap.size)
  generalize hAe : va_A [(a1, .inr (17, [.int 0, .ref a2, .ref a3, .ref a4, .long 0])), (a2, .inl (T 2, 12, .inr (.inr (.inr (.inr (fun _ => none))))))] s.heap.size = A at hD hG ⊢
  have hA : ∀ q : Nat, s.heap.size ≤ q → A q := fun q h => by rw [← hAe]; exact Or.inr h
  have hS : va_S A s.heap s.heap [] := va_S.rf
  have hl := lv_entry ([.ref a1]) (n := 1) (Nat.le_of_ble_eq_true rfl)
  rw [lg_entry_eq]
  generalize (lg_sl ([.ref a1]) ++ List.replicate (1 - (lg_sl ([.ref a1])).length) Slot.unset).toArray = ls at hl ⊢
  have hl : lv_has ls 1 [(0, .ref a1)] := hl
  refine lv_aload_n hx hb dX12_countHull_0 rfl (lv_at hl 0 rfl) ?_
  refine lv_iconst (v := 0) hx hb dX12_countHull_1 (by decide) ?_
  refine va_put (D := (dC, dI)) (ci := 17) (v := .int 0) (ty := .int) (C := RX12) (T := TX12) (N := 5) hx hb hts hin_X12 tyX12 tyX12_ok nmX12 hown hK hP hD hS 0 rfl rfl 0 (by decide) (hts (.fieldLink RX12 25 "NearestwardModel" "thrown" "I") (by decide +kernel)) (fun _ h9 => h9) rfl (by decide +kernel) rfl rfl (Nat.le_of_ble_eq_true rfl) dX12_countHull_2 (fun H locs hP hD hS => ?_)
  have hP : va_P (dC, dI) vwCl [(a1, .inr (17, [.int 0, .ref a2, .ref a3, .ref a4, .long 0])), (a2, .inl (T 2, 12, .inr (.inr (.inr (.inr (fun _ => none))))))] H := hP
  have hD : va_D A [(a1, .inr (17, [.int 0, .ref a2, .ref a3, .ref a4, .long 0])), (a2, .inl (T 2, 12, .inr (.inr (.inr (.inr (fun _ => none))))))] := hD
  refine lv_aload_n hx hb dX12_countHull_5 rfl (lv_at hl 0 rfl) ?_
  refine lv_aload_n hx hb dX12_countHull_6 rfl (lv_at hl 0 rfl) ?_
  have hPc := hP.sub (ws' := [(a1, .inr (17, [.int 0, .ref a2, .ref a3, .ref a4, .long 0])), (a2, .inl (T 2, 12, .inr (.inr (.inr (.inr (fun _ => none))))))]) [0, 1] rfl
  have hDc := hD.sub (ws' := [(a1, .inr (17, [.int 0, .ref a2, .ref a3, .ref a4, .long 0])), (a2, .inl (T 2, 12, .inr (.inr (.inr (.inr (fun _ => none))))))]) [0, 1] (by decide) rfl
  have hFc := va_free (wc := [(a1, .inr (17, [.int 0, .ref a2, .ref a3, .ref a4, .long 0])), (a2, .inl (T 2, 12, .inr (.inr (.inr (.inr (fun _ => none))))))]) hD hS hA [0, 1] rfl
  refine va_calli (va_runV (As := []) (rest := [.ref a1]) ⟨hx, hb, hml, hown, hts⟩ (xcX12_all l hst dC dI T a1 a2 a3 a4 H.size) (cwV 0 hts gX12_countHull_X12_all rfl rfl rfl (by decide +kernel) ⟨Nat.le_of_ble_eq_true rfl, Nat.le_of_ble_eq_true rfl⟩) ⟨xBlind, va_recv hK hPc (ci := 17) (q0 := 0) rfl rfl, xCall hK hG hS hPc hDc hFc⟩ rfl rfl hl.1 rfl (lv_room (Nat.le_of_ble_eq_true rfl)) dX12_countHull_7 ⟨Nat.le_of_ble_eq_true rfl, Nat.le_of_ble_eq_true rfl⟩) hS (fun q _ h => hFc q h) hFc (fun r_9 u t H locs ht hvm hw hB hz1 hk1 hS => ?_)
  subst hw
  rcases hB with ⟨hr_9, hP1, hD1⟩
  rw [ht] at hP1
  subst hr_9
  obtain ⟨hP, hD⟩ := va_join (wr := []) (w1 := [(a1, .inr (17, [.int 0, .ref a2, .ref a3, .ref a4, .long 0])), (a2, .inl (T 2, 12, .inr (.inr (.inr (.inr (fun _ => none))))))]) hP hD [0, 1] [] rfl rfl (by decide) (by decide) hk1 hFc hP1 hD1
  have hP : va_P (dC, dI) vwCl [(a1, .inr (17, [.int 0, .ref a2, .ref a3, .ref a4, .long 0])), (a2, .inl (T 2, 12, .inr (.inr (.inr (.inr (fun _ => none))))))] H := hP
  have hD : va_D A [(a1, .inr (17, [.int 0, .ref a2, .ref a3, .ref a4, .long 0])), (a2, .inl (T 2, 12, .inr (.inr (.inr (.inr (fun _ => none))))))] := hD
  clear hPc hDc hFc hP1 hD1 hk1 hz1 ht hvm
  have hPc := hP.sub (ws' := [(a1, .inr (17, [.int 0, .ref a2, .ref a3, .ref a4, .long 0]))]) [0] rfl
  have hDc := hD.sub (ws' := [(a1, .inr (17, [.int 0, .ref a2, .ref a3, .ref a4, .long 0]))]) [0] (by decide) rfl
  have hFc := va_free (wc := [(a1, .inr (17, [.int 0, .ref a2, .ref a3, .ref a4, .long 0]))]) hD hS hA [0] rfl
  refine va_callr (va_runV (As := [.int 0]) (rest := []) ⟨hx, hb, hml, hown, hts⟩ (xcX12_hull l hst dC dI T a1 a2 a3 a4 H.size) (cwV 1 hts gX12_countHull_X12_hull rfl rfl rfl (by decide +kernel) ⟨Nat.le_of_ble_eq_true rfl, Nat.le_of_ble_eq_true rfl⟩) ⟨xBlind, va_recv hK hPc (ci := 17) (q0 := 0) rfl rfl, xCall hK hG hS hPc hDc hFc⟩ rfl rfl hl.1 rfl (lv_room (Nat.le_of_ble_eq_true rfl)) dX12_countHull_10 ⟨Nat.le_of_ble_eq_true rfl, Nat.le_of_ble_eq_true rfl⟩) hS (fun q _ h => hFc q h) hFc (fun u ra t H locs ht hvm hw hB hz1 hk1 hS => ?_)
  rcases hB with ⟨q_2, hr_9, hP1, hD1⟩
  rw [ht] at hP1
  subst hr_9
  obtain ⟨hP, hD⟩ := va_join (wr := [(a2, .inl (T 2, 12, .inr (.inr (.inr (.inr (fun _ => none))))))]) (w1 := [(a1, .inr (17, [.int 0, .ref a2, .ref a3, .ref a4, .long 0])), (q_2, .inr (4, [.int 0, .ref (dI 1000 0), .int 0]))]) hP hD [0] [1] rfl rfl (by decide) (by decide) hk1 hFc hP1 hD1
  have hP := hP.sub (ws' := [(a1, .inr (17, [.int 0, .ref a2, .ref a3, .ref a4, .long 0])), (a2, .inl (T 2, 12, .inr (.inr (.inr (.inr (fun _ => none)))))), (q_2, .inr (4, [.int 0, .ref (dI 1000 0), .int 0]))]) [1, 0, 2] rfl
  have hD := hD.sub (ws' := [(a1, .inr (17, [.int 0, .ref a2, .ref a3, .ref a4, .long 0])), (a2, .inl (T 2, 12, .inr (.inr (.inr (.inr (fun _ => none)))))), (q_2, .inr (4, [.int 0, .ref (dI 1000 0), .int 0]))]) [1, 0, 2] (by decide) rfl
  clear hPc hDc hFc hP1 hD1 hk1 hz1 ht hvm
  have hPc := hP.sub (ws' := [(q_2, .inr (4, [.int 0, .ref (dI 1000 0), .int 0]))]) [2] rfl
  have hDc := hD.sub (ws' := [(q_2, .inr (4, [.int 0, .ref (dI 1000 0), .int 0]))]) [2] (by decide) rfl
  have hFc := va_free (wc := [(q_2, .inr (4, [.int 0, .ref (dI 1000 0), .int 0]))]) hD hS hA [2] rfl
  refine va_callFi (va_runF (As := []) (rest := []) (hK.1 4 _ rfl).2 ⟨hx, hb, hml, hown, hts⟩ (xcJx4a65c_size_8abf5_v2 l hst dC dI T q_2 H.size) (va_cwF 0 hts gX12_countHull_Jx4a65c_size_8abf5_f56Jx4a65c rfl rfl rfl (hG.2.2.2.2.2.2.1 ((⟨"java/util/List", "size", "()I"⟩ : MethodName), yJx4a65c_size_8abf5) (List.mem_of_getElem? (i := 1) rfl)) (by decide +kernel) ⟨Nat.le_of_ble_eq_true rfl, Nat.le_of_ble_eq_true rfl⟩) ⟨xBlind, va_recv hK hPc (ci := 4) (q0 := 0) rfl rfl, xCall hK hG hS hPc hDc hFc⟩ rfl rfl hl.1 rfl (lv_room (Nat.le_of_ble_eq_true rfl)) dX12_countHull_13 ⟨Nat.le_of_ble_eq_true rfl, Nat.le_of_ble_eq_true rfl⟩) hS (fun q _ h => hFc q h) hFc (fun r_9 u t H locs ht hvm hw hB hz1 hk1 hS => ?_)
  subst hw
  rcases hB with ⟨hr_9, hP1, hD1⟩
  rw [ht] at hP1
  subst hr_9
  obtain ⟨hP, hD⟩ := va_join (wr := [(a1, .inr (17, [.int 0, .ref a2, .ref a3, .ref a4, .long 0])), (a2, .inl (T 2, 12, .inr (.inr (.inr (.inr (fun _ => none))))))]) (w1 := [(q_2, .inr (4, [.int 0, .ref (dI 1000 0), .int 0]))]) hP hD [2] [0, 1] rfl rfl (by decide) (by decide) hk1 hFc hP1 hD1
  have hP : va_P (dC, dI) vwCl [(a1, .inr (17, [.int 0, .ref a2, .ref a3, .ref a4, .long 0])), (a2, .inl (T 2, 12, .inr (.inr (.inr (.inr (fun _ => none)))))), (q_2, .inr (4, [.int 0, .ref (dI 1000 0), .int 0]))] H := hP
  have hD : va_D A [(a1, .inr (17, [.int 0, .ref a2, .ref a3, .ref a4, .long 0])), (a2, .inl (T 2, 12, .inr (.inr (.inr (.inr (fun _ => none)))))), (q_2, .inr (4, [.int 0, .ref (dI 1000 0), .int 0]))] := hD
  clear hPc hDc hFc hP1 hD1 hk1 hz1 ht hvm
  have hP9 := hP.sub (ws' := [(a1, .inr (17, [.int 0, .ref a2, .ref a3, .ref a4, .long 0]))]) [0] rfl
  have hD9 := hD.sub (ws' := [(a1, .inr (17, [.int 0, .ref a2, .ref a3, .ref a4, .long 0]))]) [0] (by decide) rfl
  exact W.iret (v := 0) hx hb hr (fun t ht hW => ⟨⟨_, _, rfl, rfl, ⟨rfl, by rw [ht]; exact hP9, hD9⟩⟩, hS.F ht⟩) hS.2.2 dX12_countHull_18
set_option maxHeartbeats 4000000 in
set_option maxRecDepth 100000 in
theorem xcX12_isGraph (l : Launch) (hst : l.stackTraces = false) (dC : Nat → ClassId) (dI : Nat → Nat → Nat) (T : Nat → ClassId) (sz : Nat) (p0 : Int32) : Met l yX12_isGraph wsX12_isGraph ({ frames := 0, cells := 0, slots := 0, locals := 0 } : Room) (va_Pc [.int p0] (fun U => xB dC dI T [] sz U)) (va_Qi (fun (r u : Int32) => r = u) (fun (u : Int32) (t : State) => (((p0.toInt = 103) ∨ ((¬ (p0.toInt = 103)) ∧ (p0.toInt = 114)) ∨ ((¬ (p0.toInt = 103)) ∧ (¬ (p0.toInt = 114)) ∧ (p0.toInt = 110)) ∨ ((¬ (p0.toInt = 103)) ∧ (¬ (p0.toInt = 114)) ∧ (¬ (p0.toInt = 110)) ∧ (p0.toInt = 116))) ∧ 1 = u ∧ xE dC dI [] (va_A [] sz) t) ∨ (((¬ (p0.toInt = 103)) ∧ (¬ (p0.toInt = 114)) ∧ (¬ (p0.toInt = 110)) ∧ (¬ (p0.toInt = 116))) ∧ 0 = u ∧ xE dC dI [] (va_A [] sz) t)) (va_A [] sz)) 0 0 (va_A [] sz) := by
  refine Met.ofW (cc := cX12_isGraph) (maxL := 1) (ret := (some .boolean)) (by decide +kernel) rfl ?_
  intro p e s m args below meth c s₁ B hml hv
  obtain ⟨rfl, hsz, hP, hK, hD0, hG⟩ := hv
  have hx := B.exec
  have hb := B.bytes
  have hr := B.returns
  have hts := atoms_spec (ws := wsX12_isGraph) B.pre
  have hown : s.vm.findClass RX12 = some m.cls := findClass_of_methodNamed B.named
  have hlocks := B.notSynchronized
  subst hsz
  have hD := hD0.self (sz := s.heap.size)
  generalize hAe : va_A [] s.heap.size = A at hD hG ⊢
  have hA : ∀ q : Nat, s.heap.size ≤ q → A q := fun q h => by rw [← hAe]; exact Or.inr h
  have hS : va_S A s.heap s.heap [] := va_S.rf
  have hl := lv_entry ([.int p0]) (n := 1) (Nat.le_of_ble_eq_true rfl)
  rw [lg_entry_eq]
  generalize (lg_sl ([.int p0]) ++ List.replicate (1 - (lg_sl ([.int p0])).length) Slot.unset).toArray = ls at hl ⊢
  have hl : lv_has ls 1 [(0, .int p0)] := hl
  refine lv_iload_n hx hb dX12_isGraph_0 rfl (lv_at hl 0 rfl) ?_
  refine lv_bipush (v := 103) hx hb dX12_isGraph_1 (by decide) ?_
  refine lv_icmp_eq (tgt := 24) hx hb dX12_isGraph_3 (by decide) (fun c_1 => ?_) (fun c_1 => ?_)
  · have nc_1 : p0.toInt = 103 := (xi_eq rfl (by decide +kernel)).mp c_1
    refine lv_iconst (v := 1) hx hb dX12_isGraph_24 (by decide) ?_
    refine lv_goto (tgt := 29) hx hb dX12_isGraph_25 (by decide) ?_
    have hP9 := hP.sub (ws' := []) [] rfl
    have hD9 := hD.sub (ws' := []) [] (by decide) rfl
    exact W.zret (v := 1) hx hb hr (by decide) (fun t ht hW => ⟨⟨_, _, rfl, rfl, (Or.inl ⟨(Or.inl nc_1), rfl, by rw [ht]; exact hP9, hD9⟩)⟩, hS.F ht⟩) hS.2.2 dX12_isGraph_29
  · have nc_1 : ¬ (p0.toInt = 103) := mt (xi_eq rfl (by decide +kernel)).mpr c_1
    refine lv_iload_n hx hb dX12_isGraph_6 rfl (lv_at hl 0 rfl) ?_
    refine lv_bipush (v := 114) hx hb dX12_isGraph_7 (by decide) ?_
    refine lv_icmp_eq (tgt := 24) hx hb dX12_isGraph_9 (by decide) (fun c_2 => ?_) (fun c_2 => ?_)
    · have nc_2 : p0.toInt = 114 := (xi_eq rfl (by decide +kernel)).mp c_2
      refine lv_iconst (v := 1) hx hb dX12_isGraph_24 (by decide) ?_
      refine lv_goto (tgt := 29) hx hb dX12_isGraph_25 (by decide) ?_
      have hP9 := hP.sub (ws' := []) [] rfl
      have hD9 := hD.sub (ws' := []) [] (by decide) rfl
      exact W.zret (v := 1) hx hb hr (by decide) (fun t ht hW => ⟨⟨_, _, rfl, rfl, (Or.inl ⟨(Or.inr (Or.inl ⟨nc_1, nc_2⟩)), rfl, by rw [ht]; exact hP9, hD9⟩)⟩, hS.F ht⟩) hS.2.2 dX12_isGraph_29
    · have nc_2 : ¬ (p0.toInt = 114) := mt (xi_eq rfl (by decide +kernel)).mpr c_2
      refine lv_iload_n hx hb dX12_isGraph_12 rfl (lv_at hl 0 rfl) ?_
      refine lv_bipush (v := 110) hx hb dX12_isGraph_13 (by decide) ?_
      refine lv_icmp_eq (tgt := 24) hx hb dX12_isGraph_15 (by decide) (fun c_3 => ?_) (fun c_3 => ?_)
      · have nc_3 : p0.toInt = 110 := (xi_eq rfl (by decide +kernel)).mp c_3
        refine lv_iconst (v := 1) hx hb dX12_isGraph_24 (by decide) ?_
        refine lv_goto (tgt := 29) hx hb dX12_isGraph_25 (by decide) ?_
        have hP9 := hP.sub (ws' := []) [] rfl
        have hD9 := hD.sub (ws' := []) [] (by decide) rfl
        exact W.zret (v := 1) hx hb hr (by decide) (fun t ht hW => ⟨⟨_, _, rfl, rfl, (Or.inl ⟨(Or.inr (Or.inr (Or.inl ⟨nc_1, nc_2, nc_3⟩))), rfl, by rw [ht]; exact hP9, hD9⟩)⟩, hS.F ht⟩) hS.2.2 dX12_isGraph_29
      · have nc_3 : ¬ (p0.toInt = 110) := mt (xi_eq rfl (by decide +kernel)).mpr c_3
        refine lv_iload_n hx hb dX12_isGraph_18 rfl (lv_at hl 0 rfl) ?_
        refine lv_bipush (v := 116) hx hb dX12_isGraph_19 (by decide) ?_
        refine lv_icmp_ne (tgt := 28) hx hb dX12_isGraph_21 (by decide) (fun c_4 => ?_) (fun c_4 => ?_)
        · have nc_4 : ¬ (p0.toInt = 116) := mt (xi_eq rfl (by decide +kernel)).mpr c_4
          refine lv_iconst (v := 0) hx hb dX12_isGraph_28 (by decide) ?_
          have hP9 := hP.sub (ws' := []) [] rfl
          have hD9 := hD.sub (ws' := []) [] (by decide) rfl
          exact W.zret (v := 0) hx hb hr (by decide) (fun t ht hW => ⟨⟨_, _, rfl, rfl, (Or.inr (⟨⟨nc_1, nc_2, nc_3, nc_4⟩, rfl, by rw [ht]; exact hP9, hD9⟩))⟩, hS.F ht⟩) hS.2.2 dX12_isGraph_29
        · have nc_4 : p0.toInt = 116 := (xi_eq rfl (by decide +kernel)).mp c_4
          refine lv_iconst (v := 1) hx hb dX12_isGraph_24 (by decide) ?_
          refine lv_goto (tgt := 29) hx hb dX12_isGraph_25 (by decide) ?_
          have hP9 := hP.sub (ws' := []) [] rfl
          have hD9 := hD.sub (ws' := []) [] (by decide) rfl
          exact W.zret (v := 1) hx hb hr (by decide) (fun t ht hW => ⟨⟨_, _, rfl, rfl, (Or.inl ⟨(Or.inr (Or.inr (Or.inr (⟨nc_1, nc_2, nc_3, nc_4⟩)))), rfl, by rw [ht]; exact hP9, hD9⟩)⟩, hS.F ht⟩) hS.2.2 dX12_isGraph_29
set_option maxHeartbeats 4000000 in
set_option maxRecDepth 100000 in
theorem xcX12_tree (l : Launch) (hst : l.stackTraces = false) (dC : Nat → ClassId) (dI : Nat → Nat → Nat) (T : Nat → ClassId) (a1 : Nat) (a2 : Nat) (a3 : Nat) (a4 : Nat) (sz : Nat) : Met l yX12_tree wsX12_tree ({ frames := 1, cells := 14, slots := 168, locals := 25 } : Room) (va_Pc [.ref a1] (fun U => xB dC dI T [(a1, .inr (17, [.int 0, .ref a2, .ref a3, .ref a4, .long 0])), (a2, .inl (T 2, 12, .inr (.inr (.inr (.inr (fun _ => none))))))] sz U)) (va_Qr (fun _ : Unit => True) (fun (_ : Unit) (ra : Nat) (t : State) => ∃ (q_1 : Nat) (r_2 : Nat → Nat), q_1 = ra ∧ xE dC dI [(a1, .inr (17, [.int 0, .ref a2, .ref a3, .ref a4, .long 0])), (a2, .inl (T 2, 12, .inr (.inr (.inr (.inr (fun _ => none)))))), (q_1, .inl (T 3, 12, .inr (.inr (.inr (.inr (fun i => if i < 12 then some (r_2 i) else none)))))), ((r_2 0), .inl (T 1, 12, .inl (fun _ => 0))), ((r_2 1), .inl (T 1, 12, .inl (fun _ => 0))), ((r_2 2), .inl (T 1, 12, .inl (fun _ => 0))), ((r_2 3), .inl (T 1, 12, .inl (fun _ => 0))), ((r_2 4), .inl (T 1, 12, .inl (fun _ => 0))), ((r_2 5), .inl (T 1, 12, .inl (fun _ => 0))), ((r_2 6), .inl (T 1, 12, .inl (fun _ => 0))), ((r_2 7), .inl (T 1, 12, .inl (fun _ => 0))), ((r_2 8), .inl (T 1, 12, .inl (fun _ => 0))), ((r_2 9), .inl (T 1, 12, .inl (fun _ => 0))), ((r_2 10), .inl (T 1, 12, .inl (fun _ => 0))), ((r_2 11), .inl (T 1, 12, .inl (fun _ => 0)))] (va_A [(a1, .inr (17, [.int 0, .ref a2, .ref a3, .ref a4, .long 0])), (a2, .inl (T 2, 12, .inr (.inr (.inr (.inr (fun _ => none))))))] sz) t) (va_A [(a1, .inr (17, [.int 0, .ref a2, .ref a3, .ref a4, .long 0])), (a2, .inl (T 2, 12, .inr (.inr (.inr (.inr (fun _ => none))))))] sz)) 14 168 (va_A [(a1, .inr (17, [.int 0, .ref a2, .ref a3, .ref a4, .long 0])), (a2, .inl (T 2, 12, .inr (.inr (.inr (.inr (fun _ => none))))))] sz) := by
  refine Met.ofW (cc := cX12_tree) (maxL := 8) (ret := (some (.array (.array .boolean)))) (by decide +kernel) rfl ?_
  intro p e s m args below meth c s₁ B hml hv
  obtain ⟨rfl, hsz, hP, hK, hD0, hG⟩ := hv
  have hx := B.exec
  have hb := B.bytes
  have hr := B.returns
  have hts := atoms_spec (ws := wsX12_tree) B.pre
  have hown : s.vm.findClass RX12 = some m.cls := findClass_of_methodNamed B.named
  have hlocks := B.notSynchronized
  subst hsz
  have hD := hD0.self (sz := s.heap.size)
  generalize hAe : va_A [(a1, .inr (17, [.int 0, .ref a2, .ref a3, .ref a4, .long 0])), (a2, .inl (T 2, 12, .inr (.inr (.inr (.inr (fun _ => none))))))] s.heap.size = A at hD hG ⊢
  have hA : ∀ q : Nat, s.heap.size ≤ q → A q := fun q h => by rw [← hAe]; exact Or.inr h
  have hS : va_S A s.heap s.heap [] := va_S.rf
  have hl := lv_entry ([.ref a1]) (n := 8) (Nat.le_of_ble_eq_true rfl)
  rw [lg_entry_eq]
  generalize (lg_sl ([.ref a1]) ++ List.replicate (8 - (lg_sl ([.ref a1])).length) Slot.unset).toArray = ls at hl ⊢
  have hl : lv_has ls 8 [(0, .ref a1)] := hl
  refine lv_bipush (v := 12) hx hb dX12_tree_0 (by decide) ?_
  refine lv_bipush (v := 12) hx hb dX12_tree_2 (by decide) ?_
  refine xMna (ty := .boolean) (cT := T 3) (cy := T 1) (N' := 12) (K' := 12) (z := (12, .inl (fun _ => 0))) 3 rfl hx hb hown (by have h9 := hts (.classLink RX12 164 "[[Z") (by decide +kernel); rwa [show "[" ++ (FieldType.array .boolean).toString = "[[Z" from by decide +kernel]) hG.2.2.2.2.2.2.2.2.2.1 (hts (.arrayClass .boolean) (by decide +kernel)) (hK.2 1 _ rfl).2 hK hP hD hS hA (by decide) (by decide) (by decide) (by decide) (Nat.le_of_ble_eq_true rfl) (Nat.le_of_ble_eq_true rfl) (Nat.le_of_ble_eq_true rfl) (by decide) (by decide) (Nat.le_of_ble_eq_true rfl) (Nat.le_of_ble_eq_true rfl) (fun c => xinZ c 12) dX12_tree_4 (fun q_1 r_2 H hP hD hS => ?_)
  have hP : va_P (dC, dI) vwCl [(a1, .inr (17, [.int 0, .ref a2, .ref a3, .ref a4, .long 0])), (a2, .inl (T 2, 12, .inr (.inr (.inr (.inr (fun _ => none)))))), (q_1, .inl (T 3, 12, .inr (.inr (.inr (.inr (fun i => if i < 12 then some (r_2 i) else none)))))), ((r_2 0), .inl (T 1, 12, .inl (fun _ => 0))), ((r_2 1), .inl (T 1, 12, .inl (fun _ => 0))), ((r_2 2), .inl (T 1, 12, .inl (fun _ => 0))), ((r_2 3), .inl (T 1, 12, .inl (fun _ => 0))), ((r_2 4), .inl (T 1, 12, .inl (fun _ => 0))), ((r_2 5), .inl (T 1, 12, .inl (fun _ => 0))), ((r_2 6), .inl (T 1, 12, .inl (fun _ => 0))), ((r_2 7), .inl (T 1, 12, .inl (fun _ => 0))), ((r_2 8), .inl (T 1, 12, .inl (fun _ => 0))), ((r_2 9), .inl (T 1, 12, .inl (fun _ => 0))), ((r_2 10), .inl (T 1, 12, .inl (fun _ => 0))), ((r_2 11), .inl (T 1, 12, .inl (fun _ => 0)))] H := hP
  have hD : va_D A [(a1, .inr (17, [.int 0, .ref a2, .ref a3, .ref a4, .long 0])), (a2, .inl (T 2, 12, .inr (.inr (.inr (.inr (fun _ => none)))))), (q_1, .inl (T 3, 12, .inr (.inr (.inr (.inr (fun i => if i < 12 then some (r_2 i) else none)))))), ((r_2 0), .inl (T 1, 12, .inl (fun _ => 0))), ((r_2 1), .inl (T 1, 12, .inl (fun _ => 0))), ((r_2 2), .inl (T 1, 12, .inl (fun _ => 0))), ((r_2 3), .inl (T 1, 12, .inl (fun _ => 0))), ((r_2 4), .inl (T 1, 12, .inl (fun _ => 0))), ((r_2 5), .inl (T 1, 12, .inl (fun _ => 0))), ((r_2 6), .inl (T 1, 12, .inl (fun _ => 0))), ((r_2 7), .inl (T 1, 12, .inl (fun _ => 0))), ((r_2 8), .inl (T 1, 12, .inl (fun _ => 0))), ((r_2 9), .inl (T 1, 12, .inl (fun _ => 0))), ((r_2 10), .inl (T 1, 12, .inl (fun _ => 0))), ((r_2 11), .inl (T 1, 12, .inl (fun _ => 0)))] := hD
  refine W.widen (k := 13) (n := 156) (by omega) (by omega) ?_
  refine lv_astore_n (lv' := [(1, .ref q_1), (0, .ref a1)]) hx hb dX12_tree_8 rfl hl (by decide) rfl (fun ls hl => ?_)
  refine lv_bipush (v := 12) hx hb dX12_tree_9 (by decide) ?_
  refine xNewa (atype := .int) (ty := .int) (N' := 12) (a0 := (12, .inl (fun _ => 0))) 0 rfl hx hb (hts (.arrayClass .int) (by decide +kernel)) rfl hK hP hD hS hA (fun _ => rfl) (by decide) (by decide) (by decide) (Nat.le_of_ble_eq_true rfl) (Nat.le_of_ble_eq_true rfl) dX12_tree_11 (fun q_3 H hP hD hS => ?_)
  have hP : va_P (dC, dI) vwCl [(a1, .inr (17, [.int 0, .ref a2, .ref a3, .ref a4, .long 0])), (a2, .inl (T 2, 12, .inr (.inr (.inr (.inr (fun _ => none)))))), (q_1, .inl (T 3, 12, .inr (.inr (.inr (.inr (fun i => if i < 12 then some (r_2 i) else none)))))), ((r_2 0), .inl (T 1, 12, .inl (fun _ => 0))), ((r_2 1), .inl (T 1, 12, .inl (fun _ => 0))), ((r_2 2), .inl (T 1, 12, .inl (fun _ => 0))), ((r_2 3), .inl (T 1, 12, .inl (fun _ => 0))), ((r_2 4), .inl (T 1, 12, .inl (fun _ => 0))), ((r_2 5), .inl (T 1, 12, .inl (fun _ => 0))), ((r_2 6), .inl (T 1, 12, .inl (fun _ => 0))), ((r_2 7), .inl (T 1, 12, .inl (fun _ => 0))), ((r_2 8), .inl (T 1, 12, .inl (fun _ => 0))), ((r_2 9), .inl (T 1, 12, .inl (fun _ => 0))), ((r_2 10), .inl (T 1, 12, .inl (fun _ => 0))), ((r_2 11), .inl (T 1, 12, .inl (fun _ => 0))), (q_3, .inl (T 0, 12, .inl (fun _ => 0)))] H := hP
  have hD : va_D A [(a1, .inr (17, [.int 0, .ref a2, .ref a3, .ref a4, .long 0])), (a2, .inl (T 2, 12, .inr (.inr (.inr (.inr (fun _ => none)))))), (q_1, .inl (T 3, 12, .inr (.inr (.inr (.inr (fun i => if i < 12 then some (r_2 i) else none)))))), ((r_2 0), .inl (T 1, 12, .inl (fun _ => 0))), ((r_2 1), .inl (T 1, 12, .inl (fun _ => 0))), ((r_2 2), .inl (T 1, 12, .inl (fun _ => 0))), ((r_2 3), .inl (T 1, 12, .inl (fun _ => 0))), ((r_2 4), .inl (T 1, 12, .inl (fun _ => 0))), ((r_2 5), .inl (T 1, 12, .inl (fun _ => 0))), ((r_2 6), .inl (T 1, 12, .inl (fun _ => 0))), ((r_2 7), .inl (T 1, 12, .inl (fun _ => 0))), ((r_2 8), .inl (T 1, 12, .inl (fun _ => 0))), ((r_2 9), .inl (T 1, 12, .inl (fun _ => 0))), ((r_2 10), .inl (T 1, 12, .inl (fun _ => 0))), ((r_2 11), .inl (T 1, 12, .inl (fun _ => 0))), (q_3, .inl (T 0, 12, .inl (fun _ => 0)))] := hD
  refine W.widen (k := 14) (n := 168) (by omega) (by omega) ?_
  refine lv_astore_n (lv' := [(2, .ref q_3), (1, .ref q_1), (0, .ref a1)]) hx hb dX12_tree_13 rfl hl (by decide) rfl (fun ls hl => ?_)
  refine lv_iconst (v := 0) hx hb dX12_tree_14 (by decide) ?_
  refine lv_istore_n (lv' := [(3, .int 0), (2, .ref q_3), (1, .ref q_1), (0, .ref a1)]) hx hb dX12_tree_15 rfl hl (by decide) rfl (fun ls hl => ?_)
  refine xLoop (P := fun i_k_4 H locs ls => ∃ (g_5 : Nat → Int32), va_P (dC, dI) vwCl [(a1, .inr (17, [.int 0, .ref a2, .ref a3, .ref a4, .long 0])), (a2, .inl (T 2, 12, .inr (.inr (.inr (.inr (fun _ => none)))))), (q_1, .inl (T 3, 12, .inr (.inr (.inr (.inr (fun i => if i < 12 then some (r_2 i) else none)))))), ((r_2 0), .inl (T 1, 12, .inl (fun _ => 0))), ((r_2 1), .inl (T 1, 12, .inl (fun _ => 0))), ((r_2 2), .inl (T 1, 12, .inl (fun _ => 0))), ((r_2 3), .inl (T 1, 12, .inl (fun _ => 0))), ((r_2 4), .inl (T 1, 12, .inl (fun _ => 0))), ((r_2 5), .inl (T 1, 12, .inl (fun _ => 0))), ((r_2 6), .inl (T 1, 12, .inl (fun _ => 0))), ((r_2 7), .inl (T 1, 12, .inl (fun _ => 0))), ((r_2 8), .inl (T 1, 12, .inl (fun _ => 0))), ((r_2 9), .inl (T 1, 12, .inl (fun _ => 0))), ((r_2 10), .inl (T 1, 12, .inl (fun _ => 0))), ((r_2 11), .inl (T 1, 12, .inl (fun _ => 0))), (q_3, .inl (T 0, 12, .inl g_5))] H ∧ va_D A [(a1, .inr (17, [.int 0, .ref a2, .ref a3, .ref a4, .long 0])), (a2, .inl (T 2, 12, .inr (.inr (.inr (.inr (fun _ => none)))))), (q_1, .inl (T 3, 12, .inr (.inr (.inr (.inr (fun i => if i < 12 then some (r_2 i) else none)))))), ((r_2 0), .inl (T 1, 12, .inl (fun _ => 0))), ((r_2 1), .inl (T 1, 12, .inl (fun _ => 0))), ((r_2 2), .inl (T 1, 12, .inl (fun _ => 0))), ((r_2 3), .inl (T 1, 12, .inl (fun _ => 0))), ((r_2 4), .inl (T 1, 12, .inl (fun _ => 0))), ((r_2 5), .inl (T 1, 12, .inl (fun _ => 0))), ((r_2 6), .inl (T 1, 12, .inl (fun _ => 0))), ((r_2 7), .inl (T 1, 12, .inl (fun _ => 0))), ((r_2 8), .inl (T 1, 12, .inl (fun _ => 0))), ((r_2 9), .inl (T 1, 12, .inl (fun _ => 0))), ((r_2 10), .inl (T 1, 12, .inl (fun _ => 0))), ((r_2 11), .inl (T 1, 12, .inl (fun _ => 0))), (q_3, .inl (T 0, 12, .inl g_5))] ∧ va_S A s.heap H locs ∧ lv_has ls 8 [(3, .int (nI i_k_4)), (2, .ref q_3), (1, .ref q_1), (0, .ref a1)]) (N := 12) (fun i_k_4 H locs ls hi_k_4 hI ih_k_4 => ?_) (0) _ _ _ (by omega) ⟨(fun _ => 0), hP, hD, hS, lv_sub hl [0, 1, 2, 3] rfl⟩
  obtain ⟨g_5, hP, hD, hS, hl⟩ := hI
  refine lv_iload_n hx hb dX12_tree_16 rfl (lv_at hl 0 rfl) ?_
  refine lv_bipush (v := 12) hx hb dX12_tree_17 (by decide) ?_
  have hz_7 : (nI i_k_4).toInt = ((i_k_4 : Nat) : Int) := nI_toInt (by omega)
  refine lv_icmp_ge (tgt := 32) hx hb dX12_tree_19 (by decide) (fun c_6 => ?_) (fun c_6 => ?_)
  · have nc_6 : 12 ≤ (nI i_k_4).toInt := (xi_le (by decide +kernel) rfl).mp c_6
    refine lv_iconst (v := 1) hx hb dX12_tree_32 (by decide) ?_
    refine lv_istore_n (lv' := [(3, .int 1), (2, .ref q_3), (1, .ref q_1), (0, .ref a1)]) hx hb dX12_tree_33 rfl hl (by decide) rfl (fun ls hl => ?_)
    refine lv_iload_n hx hb dX12_tree_34 rfl (lv_at hl 0 rfl) ?_
    refine lv_aload_n hx hb dX12_tree_35 rfl (lv_at hl 3 rfl) ?_
    have hPc := hP.sub (ws' := [(a1, .inr (17, [.int 0, .ref a2, .ref a3, .ref a4, .long 0])), (a2, .inl (T 2, 12, .inr (.inr (.inr (.inr (fun _ => none))))))]) [0, 1] rfl
    have hDc := hD.sub (ws' := [(a1, .inr (17, [.int 0, .ref a2, .ref a3, .ref a4, .long 0])), (a2, .inl (T 2, 12, .inr (.inr (.inr (.inr (fun _ => none))))))]) [0, 1] (by decide) rfl
    have hFc := va_free (wc := [(a1, .inr (17, [.int 0, .ref a2, .ref a3, .ref a4, .long 0])), (a2, .inl (T 2, 12, .inr (.inr (.inr (.inr (fun _ => none))))))]) hD hS hA [0, 1] rfl
    refine va_calli (va_runV (As := []) (rest := [.int 1]) ⟨hx, hb, hml, hown, hts⟩ (xcX12_many l hst dC dI T a1 a2 a3 a4 H.size) (cwV 0 hts gX12_tree_X12_many rfl rfl rfl (by decide +kernel) ⟨Nat.le_of_ble_eq_true rfl, Nat.le_of_ble_eq_true rfl⟩) ⟨xBlind, va_recv hK hPc (ci := 17) (q0 := 0) rfl rfl, xCall hK hG hS hPc hDc hFc⟩ rfl rfl hl.1 rfl (lv_room (Nat.le_of_ble_eq_true rfl)) dX12_tree_36 ⟨Nat.le_of_ble_eq_true rfl, Nat.le_of_ble_eq_true rfl⟩) hS (fun q _ h => hFc q h) hFc (fun r_9 u t H locs ht hvm hw hB hz1 hk1 hS => ?_)
    subst hw
    rcases hB with ⟨hr_9, hP1, hD1⟩
    rw [ht] at hP1
    subst hr_9
    obtain ⟨hP, hD⟩ := va_join (wr := [(q_1, .inl (T 3, 12, .inr (.inr (.inr (.inr (fun i => if i < 12 then some (r_2 i) else none)))))), ((r_2 0), .inl (T 1, 12, .inl (fun _ => 0))), ((r_2 1), .inl (T 1, 12, .inl (fun _ => 0))), ((r_2 2), .inl (T 1, 12, .inl (fun _ => 0))), ((r_2 3), .inl (T 1, 12, .inl (fun _ => 0))), ((r_2 4), .inl (T 1, 12, .inl (fun _ => 0))), ((r_2 5), .inl (T 1, 12, .inl (fun _ => 0))), ((r_2 6), .inl (T 1, 12, .inl (fun _ => 0))), ((r_2 7), .inl (T 1, 12, .inl (fun _ => 0))), ((r_2 8), .inl (T 1, 12, .inl (fun _ => 0))), ((r_2 9), .inl (T 1, 12, .inl (fun _ => 0))), ((r_2 10), .inl (T 1, 12, .inl (fun _ => 0))), ((r_2 11), .inl (T 1, 12, .inl (fun _ => 0))), (q_3, .inl (T 0, 12, .inl g_5))]) (w1 := [(a1, .inr (17, [.int 0, .ref a2, .ref a3, .ref a4, .long 0])), (a2, .inl (T 2, 12, .inr (.inr (.inr (.inr (fun _ => none))))))]) hP hD [0, 1] [2, 3, 4, 5, 6, 7, 8, 9, 10, 11, 12, 13, 14, 15] rfl rfl (by decide) (by decide) hk1 hFc hP1 hD1
    have hP := hP.sub (ws' := [(a1, .inr (17, [.int 0, .ref a2, .ref a3, .ref a4, .long 0])), (a2, .inl (T 2, 12, .inr (.inr (.inr (.inr (fun _ => none)))))), (q_1, .inl (T 3, 12, .inr (.inr (.inr (.inr (fun i => if i < 12 then some (r_2 i) else none)))))), ((r_2 0), .inl (T 1, 12, .inl (fun _ => 0))), ((r_2 1), .inl (T 1, 12, .inl (fun _ => 0))), ((r_2 2), .inl (T 1, 12, .inl (fun _ => 0))), ((r_2 3), .inl (T 1, 12, .inl (fun _ => 0))), ((r_2 4), .inl (T 1, 12, .inl (fun _ => 0))), ((r_2 5), .inl (T 1, 12, .inl (fun _ => 0))), ((r_2 6), .inl (T 1, 12, .inl (fun _ => 0))), ((r_2 7), .inl (T 1, 12, .inl (fun _ => 0))), ((r_2 8), .inl (T 1, 12, .inl (fun _ => 0))), ((r_2 9), .inl (T 1, 12, .inl (fun _ => 0))), ((r_2 10), .inl (T 1, 12, .inl (fun _ => 0))), ((r_2 11), .inl (T 1, 12, .inl (fun _ => 0))), (q_3, .inl (T 0, 12, .inl g_5))]) [14, 15, 0, 1, 2, 3, 4, 5, 6, 7, 8, 9, 10, 11, 12, 13] rfl
    have hD := hD.sub (ws' := [(a1, .inr (17, [.int 0, .ref a2, .ref a3, .ref a4, .long 0])), (a2, .inl (T 2, 12, .inr (.inr (.inr (.inr (fun _ => none)))))), (q_1, .inl (T 3, 12, .inr (.inr (.inr (.inr (fun i => if i < 12 then some (r_2 i) else none)))))), ((r_2 0), .inl (T 1, 12, .inl (fun _ => 0))), ((r_2 1), .inl (T 1, 12, .inl (fun _ => 0))), ((r_2 2), .inl (T 1, 12, .inl (fun _ => 0))), ((r_2 3), .inl (T 1, 12, .inl (fun _ => 0))), ((r_2 4), .inl (T 1, 12, .inl (fun _ => 0))), ((r_2 5), .inl (T 1, 12, .inl (fun _ => 0))), ((r_2 6), .inl (T 1, 12, .inl (fun _ => 0))), ((r_2 7), .inl (T 1, 12, .inl (fun _ => 0))), ((r_2 8), .inl (T 1, 12, .inl (fun _ => 0))), ((r_2 9), .inl (T 1, 12, .inl (fun _ => 0))), ((r_2 10), .inl (T 1, 12, .inl (fun _ => 0))), ((r_2 11), .inl (T 1, 12, .inl (fun _ => 0))), (q_3, .inl (T 0, 12, .inl g_5))]) [14, 15, 0, 1, 2, 3, 4, 5, 6, 7, 8, 9, 10, 11, 12, 13] (by decide) rfl
    clear hPc hDc hFc hP1 hD1 hk1 hz1 ht hvm
    refine lv_icmp_ge (tgt := 219) hx hb dX12_tree_39 (by decide) (fun c_9 => ?_) (fun c_9 => absurd (by decide) c_9)
    refine lv_aload_n hx hb dX12_tree_219 rfl (lv_at hl 2 rfl) ?_
    have hP9 := hP.sub (ws' := [(a1, .inr (17, [.int 0, .ref a2, .ref a3, .ref a4, .long 0])), (a2, .inl (T 2, 12, .inr (.inr (.inr (.inr (fun _ => none)))))), (q_1, .inl (T 3, 12, .inr (.inr (.inr (.inr (fun i => if i < 12 then some (r_2 i) else none)))))), ((r_2 0), .inl (T 1, 12, .inl (fun _ => 0))), ((r_2 1), .inl (T 1, 12, .inl (fun _ => 0))), ((r_2 2), .inl (T 1, 12, .inl (fun _ => 0))), ((r_2 3), .inl (T 1, 12, .inl (fun _ => 0))), ((r_2 4), .inl (T 1, 12, .inl (fun _ => 0))), ((r_2 5), .inl (T 1, 12, .inl (fun _ => 0))), ((r_2 6), .inl (T 1, 12, .inl (fun _ => 0))), ((r_2 7), .inl (T 1, 12, .inl (fun _ => 0))), ((r_2 8), .inl (T 1, 12, .inl (fun _ => 0))), ((r_2 9), .inl (T 1, 12, .inl (fun _ => 0))), ((r_2 10), .inl (T 1, 12, .inl (fun _ => 0))), ((r_2 11), .inl (T 1, 12, .inl (fun _ => 0)))]) [0, 1, 2, 3, 4, 5, 6, 7, 8, 9, 10, 11, 12, 13, 14] rfl
    have hD9 := hD.sub (ws' := [(a1, .inr (17, [.int 0, .ref a2, .ref a3, .ref a4, .long 0])), (a2, .inl (T 2, 12, .inr (.inr (.inr (.inr (fun _ => none)))))), (q_1, .inl (T 3, 12, .inr (.inr (.inr (.inr (fun i => if i < 12 then some (r_2 i) else none)))))), ((r_2 0), .inl (T 1, 12, .inl (fun _ => 0))), ((r_2 1), .inl (T 1, 12, .inl (fun _ => 0))), ((r_2 2), .inl (T 1, 12, .inl (fun _ => 0))), ((r_2 3), .inl (T 1, 12, .inl (fun _ => 0))), ((r_2 4), .inl (T 1, 12, .inl (fun _ => 0))), ((r_2 5), .inl (T 1, 12, .inl (fun _ => 0))), ((r_2 6), .inl (T 1, 12, .inl (fun _ => 0))), ((r_2 7), .inl (T 1, 12, .inl (fun _ => 0))), ((r_2 8), .inl (T 1, 12, .inl (fun _ => 0))), ((r_2 9), .inl (T 1, 12, .inl (fun _ => 0))), ((r_2 10), .inl (T 1, 12, .inl (fun _ => 0))), ((r_2 11), .inl (T 1, 12, .inl (fun _ => 0)))]) [0, 1, 2, 3, 4, 5, 6, 7, 8, 9, 10, 11, 12, 13, 14] (by decide) rfl
    exact W.aret (v := .ref q_1) hx hb hr (Or.inr ⟨_, rfl⟩) (Or.inr ⟨_, rfl⟩) (fun t ht hW => ⟨⟨(), _, rfl, trivial, ⟨q_1, r_2, rfl, by rw [ht]; exact hP9, hD9⟩⟩, hS.F ht⟩) hS.2.2 dX12_tree_220
  · have nc_6 : ¬ (12 ≤ (nI i_k_4).toInt) := mt (xi_le (by decide +kernel) rfl).mpr c_6
    refine lv_aload_n hx hb dX12_tree_22 rfl (lv_at hl 1 rfl) ?_
    refine lv_iload_n hx hb dX12_tree_23 rfl (lv_at hl 0 rfl) ?_
    refine lv_iload_n hx hb dX12_tree_24 rfl (lv_at hl 0 rfl) ?_
    refine va_iast hx hb hK hP hD hS 15 0 rfl rfl (vp_in_nI (by omega) (by decide)) dX12_tree_25 (fun H locs hP hD hS => ?_)
    have hP : va_P (dC, dI) vwCl [(a1, .inr (17, [.int 0, .ref a2, .ref a3, .ref a4, .long 0])), (a2, .inl (T 2, 12, .inr (.inr (.inr (.inr (fun _ => none)))))), (q_1, .inl (T 3, 12, .inr (.inr (.inr (.inr (fun i => if i < 12 then some (r_2 i) else none)))))), ((r_2 0), .inl (T 1, 12, .inl (fun _ => 0))), ((r_2 1), .inl (T 1, 12, .inl (fun _ => 0))), ((r_2 2), .inl (T 1, 12, .inl (fun _ => 0))), ((r_2 3), .inl (T 1, 12, .inl (fun _ => 0))), ((r_2 4), .inl (T 1, 12, .inl (fun _ => 0))), ((r_2 5), .inl (T 1, 12, .inl (fun _ => 0))), ((r_2 6), .inl (T 1, 12, .inl (fun _ => 0))), ((r_2 7), .inl (T 1, 12, .inl (fun _ => 0))), ((r_2 8), .inl (T 1, 12, .inl (fun _ => 0))), ((r_2 9), .inl (T 1, 12, .inl (fun _ => 0))), ((r_2 10), .inl (T 1, 12, .inl (fun _ => 0))), ((r_2 11), .inl (T 1, 12, .inl (fun _ => 0))), (q_3, .inl (T 0, 12, .inl (upd g_5 ((nI i_k_4) : Int32).toNatClampNeg (nI i_k_4))))] H := hP
    have hD : va_D A [(a1, .inr (17, [.int 0, .ref a2, .ref a3, .ref a4, .long 0])), (a2, .inl (T 2, 12, .inr (.inr (.inr (.inr (fun _ => none)))))), (q_1, .inl (T 3, 12, .inr (.inr (.inr (.inr (fun i => if i < 12 then some (r_2 i) else none)))))), ((r_2 0), .inl (T 1, 12, .inl (fun _ => 0))), ((r_2 1), .inl (T 1, 12, .inl (fun _ => 0))), ((r_2 2), .inl (T 1, 12, .inl (fun _ => 0))), ((r_2 3), .inl (T 1, 12, .inl (fun _ => 0))), ((r_2 4), .inl (T 1, 12, .inl (fun _ => 0))), ((r_2 5), .inl (T 1, 12, .inl (fun _ => 0))), ((r_2 6), .inl (T 1, 12, .inl (fun _ => 0))), ((r_2 7), .inl (T 1, 12, .inl (fun _ => 0))), ((r_2 8), .inl (T 1, 12, .inl (fun _ => 0))), ((r_2 9), .inl (T 1, 12, .inl (fun _ => 0))), ((r_2 10), .inl (T 1, 12, .inl (fun _ => 0))), ((r_2 11), .inl (T 1, 12, .inl (fun _ => 0))), (q_3, .inl (T 0, 12, .inl (upd g_5 ((nI i_k_4) : Int32).toNatClampNeg (nI i_k_4))))] := hD
    refine lv_iinc (v := (nI (i_k_4 + 1))) (lv' := [(3, .int (nI (i_k_4 + 1))), (2, .ref q_3), (1, .ref q_1), (0, .ref a1)]) hx hb dX12_tree_26 hl (k := 0) rfl (nI_1 _) (by decide) rfl (fun ls hl => ?_)
    refine lv_goto (tgt := 16) hx hb dX12_tree_29 (by decide) ?_
    exact ih_k_4 _ _ _ (by omega) ⟨(upd g_5 ((nI i_k_4) : Int32).toNatClampNeg (nI i_k_4)), hP, hD, hS, lv_sub hl [0, 1, 2, 3] rfl⟩
set_option maxHeartbeats 4000000 in
set_option maxRecDepth 100000 in
theorem xcX12_countJoined (l : Launch) (hst : l.stackTraces = false) (dC : Nat → ClassId) (dI : Nat → Nat → Nat) (T : Nat → ClassId) (a1 : Nat) (a2 : Nat) (a3 : Nat) (a4 : Nat) (sz : Nat) (p1 : Int32) : Met l yX12_countJoined wsX12_countJoined ({ frames := 2, cells := 14, slots := 168, locals := 52 } : Room) (va_Pc [.ref a1, .int p1] (fun U => xB dC dI T [(a1, .inr (17, [.int 0, .ref a2, .ref a3, .ref a4, .long 0])), (a2, .inl (T 2, 12, .inr (.inr (.inr (.inr (fun _ => none))))))] sz U)) (va_Qi (fun (r u : Int32) => r = u) (fun (u : Int32) (t : State) => (((p1.toInt = 103) ∨ ((¬ (p1.toInt = 103)) ∧ (p1.toInt = 114)) ∨ ((¬ (p1.toInt = 103)) ∧ (¬ (p1.toInt = 114)) ∧ (p1.toInt = 110)) ∨ ((¬ (p1.toInt = 103)) ∧ (¬ (p1.toInt = 114)) ∧ (¬ (p1.toInt = 110)) ∧ (p1.toInt = 116))) ∧ 0 = u ∧ xE dC dI [(a1, .inr (17, [.int 0, .ref a2, .ref a3, .ref a4, .long 0]))] (va_A [(a1, .inr (17, [.int 0, .ref a2, .ref a3, .ref a4, .long 0])), (a2, .inl (T 2, 12, .inr (.inr (.inr (.inr (fun _ => none))))))] sz) t) ∨ (((¬ (p1.toInt = 103)) ∧ (¬ (p1.toInt = 114)) ∧ (¬ (p1.toInt = 110)) ∧ (¬ (p1.toInt = 116))) ∧ 0 = u ∧ xE dC dI [(a1, .inr (17, [.int 1, .ref a2, .ref a3, .ref a4, .long 0]))] (va_A [(a1, .inr (17, [.int 0, .ref a2, .ref a3, .ref a4, .long 0])), (a2, .inl (T 2, 12, .inr (.inr (.inr (.inr (fun _ => none))))))] sz) t)) (va_A [(a1, .inr (17, [.int 0, .ref a2, .ref a3, .ref a4, .long 0])), (a2, .inl (T 2, 12, .inr (.inr (.inr (.inr (fun _ => none))))))] sz)) 14 168 (va_A [(a1, .inr (17, [.int 0, .ref a2, .ref a3, .ref a4, .long 0])), (a2, .inl (T 2, 12, .inr (.inr (.inr (.inr (fun _ => none))))))] sz) := by
  refine Met.ofW (cc := cX12_countJoined) (maxL := 6) (ret := (some .int)) (by decide +kernel) rfl ?_
  intro p e s m args below meth c s₁ B hml hv
  obtain ⟨rfl, hsz, hP, hK, hD0, hG⟩ := hv
  have hx := B.exec
  have hb := B.bytes
  have hr := B.returns
  have hts := atoms_spec (ws := wsX12_countJoined) B.pre
  have hown : s.vm.findClass RX12 = some m.cls := findClass_of_methodNamed B.named
  have hlocks := B.notSynchronized
  subst hsz
  have hD := hD0.self (sz := s.heap.size)
  generalize hAe : va_A [(a1, .inr (17, [.int 0, .ref a2, .ref a3, .ref a4, .long 0])), (a2, .inl (T 2, 12, .inr (.inr (.inr (.inr (fun _ => none))))))] s.heap.size = A at hD hG ⊢
  have hA : ∀ q : Nat, s.heap.size ≤ q → A q := fun q h => by rw [← hAe]; exact Or.inr h
  have hS : va_S A s.heap s.heap [] := va_S.rf
  have hl := lv_entry ([.ref a1, .int p1]) (n := 6) (Nat.le_of_ble_eq_true rfl)
  rw [lg_entry_eq]
  generalize (lg_sl ([.ref a1, .int p1]) ++ List.replicate (6 - (lg_sl ([.ref a1, .int p1])).length) Slot.unset).toArray = ls at hl ⊢
  have hl : lv_has ls 6 [(0, .ref a1), (1, .int p1)] := hl
  refine lv_aload_n hx hb dX12_countJoined_0 rfl (lv_at hl 0 rfl) ?_
  refine lv_iload_n hx hb dX12_countJoined_1 rfl (lv_at hl 1 rfl) ?_
  have hPc := hP.sub (ws' := []) [] rfl
  have hDc := hD.sub (ws' := []) [] (by decide) rfl
  have hFc := va_free (wc := []) hD hS hA [] rfl
  refine va_calli (va_runS (As := [.int p1]) (rest := [.ref a1]) ⟨hx, hb, hml, hown, hts⟩ (xcX12_isGraph l hst dC dI T s.heap.size p1) (cwS 1 hts gX12_countJoined_X12_isGraph rfl rfl rfl (by decide +kernel) ⟨Nat.le_of_ble_eq_true rfl, Nat.le_of_ble_eq_true rfl⟩) ⟨xBlind, xCall hK hG hS hPc hDc hFc⟩ rfl rfl hl.1 rfl (lv_room (Nat.le_of_ble_eq_true rfl)) dX12_countJoined_2 ⟨Nat.le_of_ble_eq_true rfl, Nat.le_of_ble_eq_true rfl⟩) hS (fun q _ h => hFc q h) hFc (fun r_9 u t H locs ht hvm hw hB hz1 hk1 hS => ?_)
  subst hw
  rcases hB with ⟨c_1, hr_9, hP1, hD1⟩ | ⟨c_2, hr_9, hP1, hD1⟩
  · rw [ht] at hP1
    subst hr_9
    obtain ⟨hP, hD⟩ := va_join (wr := [(a1, .inr (17, [.int 0, .ref a2, .ref a3, .ref a4, .long 0])), (a2, .inl (T 2, 12, .inr (.inr (.inr (.inr (fun _ => none))))))]) (w1 := []) hP hD [] [0, 1] rfl rfl (by decide) (by decide) hk1 hFc hP1 hD1
    have hP : va_P (dC, dI) vwCl [(a1, .inr (17, [.int 0, .ref a2, .ref a3, .ref a4, .long 0])), (a2, .inl (T 2, 12, .inr (.inr (.inr (.inr (fun _ => none))))))] H := hP
    have hD : va_D A [(a1, .inr (17, [.int 0, .ref a2, .ref a3, .ref a4, .long 0])), (a2, .inl (T 2, 12, .inr (.inr (.inr (.inr (fun _ => none))))))] := hD
    clear hPc hDc hFc hP1 hD1 hk1 hz1 ht hvm
    refine lv_if_eq (tgt := 12) hx hb dX12_countJoined_5 (by decide) (fun c_3 => absurd c_3 (by decide)) (fun c_3 => ?_)
    refine lv_iconst (v := 0) hx hb dX12_countJoined_8 (by decide) ?_
    refine lv_goto (tgt := 13) hx hb dX12_countJoined_9 (by decide) ?_
    have hPc := hP.sub (ws' := [(a1, .inr (17, [.int 0, .ref a2, .ref a3, .ref a4, .long 0]))]) [0] rfl
    have hDc := hD.sub (ws' := [(a1, .inr (17, [.int 0, .ref a2, .ref a3, .ref a4, .long 0]))]) [0] (by decide) rfl
    have hFc := va_free (wc := [(a1, .inr (17, [.int 0, .ref a2, .ref a3, .ref a4, .long 0]))]) hD hS hA [0] rfl
    refine va_calli (va_runV (As := [.int 0]) (rest := []) ⟨hx, hb, hml, hown, hts⟩ (xcX12_isWrong_v2 l hst dC dI T a1 a2 a3 a4 H.size) (cwV 1 hts gX12_countJoined_X12_isWrong rfl rfl rfl (by decide +kernel) ⟨Nat.le_of_ble_eq_true rfl, Nat.le_of_ble_eq_true rfl⟩) ⟨xBlind, va_recv hK hPc (ci := 17) (q0 := 0) rfl rfl, xCall hK hG hS hPc hDc hFc⟩ rfl rfl hl.1 rfl (lv_room (Nat.le_of_ble_eq_true rfl)) dX12_countJoined_13 ⟨Nat.le_of_ble_eq_true rfl, Nat.le_of_ble_eq_true rfl⟩) hS (fun q _ h => hFc q h) hFc (fun r_9 u t H locs ht hvm hw hB hz1 hk1 hS => ?_)
    subst hw
    rcases hB with ⟨hr_9, hP1, hD1⟩
    rw [ht] at hP1
    subst hr_9
    obtain ⟨hP, hD⟩ := va_join (wr := [(a2, .inl (T 2, 12, .inr (.inr (.inr (.inr (fun _ => none))))))]) (w1 := [(a1, .inr (17, [.int 0, .ref a2, .ref a3, .ref a4, .long 0]))]) hP hD [0] [1] rfl rfl (by decide) (by decide) hk1 hFc hP1 hD1
    have hP := hP.sub (ws' := [(a1, .inr (17, [.int 0, .ref a2, .ref a3, .ref a4, .long 0])), (a2, .inl (T 2, 12, .inr (.inr (.inr (.inr (fun _ => none))))))]) [1, 0] rfl
    have hD := hD.sub (ws' := [(a1, .inr (17, [.int 0, .ref a2, .ref a3, .ref a4, .long 0])), (a2, .inl (T 2, 12, .inr (.inr (.inr (.inr (fun _ => none))))))]) [1, 0] (by decide) rfl
    clear hPc hDc hFc hP1 hD1 hk1 hz1 ht hvm
    refine lv_if_eq (tgt := 21) hx hb dX12_countJoined_16 (by decide) (fun c_5 => ?_) (fun c_5 => absurd (by decide) c_5)
    refine lv_aload_n hx hb dX12_countJoined_21 rfl (lv_at hl 0 rfl) ?_
    have hPc := hP.sub (ws' := [(a1, .inr (17, [.int 0, .ref a2, .ref a3, .ref a4, .long 0])), (a2, .inl (T 2, 12, .inr (.inr (.inr (.inr (fun _ => none))))))]) [0, 1] rfl
    have hDc := hD.sub (ws' := [(a1, .inr (17, [.int 0, .ref a2, .ref a3, .ref a4, .long 0])), (a2, .inl (T 2, 12, .inr (.inr (.inr (.inr (fun _ => none))))))]) [0, 1] (by decide) rfl
    have hFc := va_free (wc := [(a1, .inr (17, [.int 0, .ref a2, .ref a3, .ref a4, .long 0])), (a2, .inl (T 2, 12, .inr (.inr (.inr (.inr (fun _ => none))))))]) hD hS hA [0, 1] rfl
    refine va_callr (va_runV (As := []) (rest := []) ⟨hx, hb, hml, hown, hts⟩ (xcX12_tree l hst dC dI T a1 a2 a3 a4 H.size) (cwV 0 hts gX12_countJoined_X12_tree rfl rfl rfl (by decide +kernel) ⟨Nat.le_of_ble_eq_true rfl, Nat.le_of_ble_eq_true rfl⟩) ⟨xBlind, va_recv hK hPc (ci := 17) (q0 := 0) rfl rfl, xCall hK hG hS hPc hDc hFc⟩ rfl rfl hl.1 rfl (lv_room (Nat.le_of_ble_eq_true rfl)) dX12_countJoined_22 ⟨Nat.le_of_ble_eq_true rfl, Nat.le_of_ble_eq_true rfl⟩) hS (fun q _ h => hFc q h) hFc (fun u ra t H locs ht hvm hw hB hz1 hk1 hS => ?_)
    rcases hB with ⟨q_6, r_7, hr_9, hP1, hD1⟩
    rw [ht] at hP1
    subst hr_9
    obtain ⟨hP, hD⟩ := va_join (wr := []) (w1 := [(a1, .inr (17, [.int 0, .ref a2, .ref a3, .ref a4, .long 0])), (a2, .inl (T 2, 12, .inr (.inr (.inr (.inr (fun _ => none)))))), (q_6, .inl (T 3, 12, .inr (.inr (.inr (.inr (fun i => if i < 12 then some (r_7 i) else none)))))), ((r_7 0), .inl (T 1, 12, .inl (fun _ => 0))), ((r_7 1), .inl (T 1, 12, .inl (fun _ => 0))), ((r_7 2), .inl (T 1, 12, .inl (fun _ => 0))), ((r_7 3), .inl (T 1, 12, .inl (fun _ => 0))), ((r_7 4), .inl (T 1, 12, .inl (fun _ => 0))), ((r_7 5), .inl (T 1, 12, .inl (fun _ => 0))), ((r_7 6), .inl (T 1, 12, .inl (fun _ => 0))), ((r_7 7), .inl (T 1, 12, .inl (fun _ => 0))), ((r_7 8), .inl (T 1, 12, .inl (fun _ => 0))), ((r_7 9), .inl (T 1, 12, .inl (fun _ => 0))), ((r_7 10), .inl (T 1, 12, .inl (fun _ => 0))), ((r_7 11), .inl (T 1, 12, .inl (fun _ => 0)))]) hP hD [0, 1] [] rfl rfl (by decide) (by decide) hk1 hFc hP1 hD1
    have hP : va_P (dC, dI) vwCl [(a1, .inr (17, [.int 0, .ref a2, .ref a3, .ref a4, .long 0])), (a2, .inl (T 2, 12, .inr (.inr (.inr (.inr (fun _ => none)))))), (q_6, .inl (T 3, 12, .inr (.inr (.inr (.inr (fun i => if i < 12 then some (r_7 i) else none)))))), ((r_7 0), .inl (T 1, 12, .inl (fun _ => 0))), ((r_7 1), .inl (T 1, 12, .inl (fun _ => 0))), ((r_7 2), .inl (T 1, 12, .inl (fun _ => 0))), ((r_7 3), .inl (T 1, 12, .inl (fun _ => 0))), ((r_7 4), .inl (T 1, 12, .inl (fun _ => 0))), ((r_7 5), .inl (T 1, 12, .inl (fun _ => 0))), ((r_7 6), .inl (T 1, 12, .inl (fun _ => 0))), ((r_7 7), .inl (T 1, 12, .inl (fun _ => 0))), ((r_7 8), .inl (T 1, 12, .inl (fun _ => 0))), ((r_7 9), .inl (T 1, 12, .inl (fun _ => 0))), ((r_7 10), .inl (T 1, 12, .inl (fun _ => 0))), ((r_7 11), .inl (T 1, 12, .inl (fun _ => 0)))] H := hP
    have hD : va_D A [(a1, .inr (17, [.int 0, .ref a2, .ref a3, .ref a4, .long 0])), (a2, .inl (T 2, 12, .inr (.inr (.inr (.inr (fun _ => none)))))), (q_6, .inl (T 3, 12, .inr (.inr (.inr (.inr (fun i => if i < 12 then some (r_7 i) else none)))))), ((r_7 0), .inl (T 1, 12, .inl (fun _ => 0))), ((r_7 1), .inl (T 1, 12, .inl (fun _ => 0))), ((r_7 2), .inl (T 1, 12, .inl (fun _ => 0))), ((r_7 3), .inl (T 1, 12, .inl (fun _ => 0))), ((r_7 4), .inl (T 1, 12, .inl (fun _ => 0))), ((r_7 5), .inl (T 1, 12, .inl (fun _ => 0))), ((r_7 6), .inl (T 1, 12, .inl (fun _ => 0))), ((r_7 7), .inl (T 1, 12, .inl (fun _ => 0))), ((r_7 8), .inl (T 1, 12, .inl (fun _ => 0))), ((r_7 9), .inl (T 1, 12, .inl (fun _ => 0))), ((r_7 10), .inl (T 1, 12, .inl (fun _ => 0))), ((r_7 11), .inl (T 1, 12, .inl (fun _ => 0)))] := hD
    clear hPc hDc hFc hP1 hD1 hk1 hz1 ht hvm
    refine lv_astore_n (lv' := [(2, .ref q_6), (0, .ref a1), (1, .int p1)]) hx hb dX12_countJoined_25 rfl hl (by decide) rfl (fun ls hl => ?_)
    refine lv_iconst (v := 0) hx hb dX12_countJoined_26 (by decide) ?_
    refine lv_istore_n (lv' := [(3, .int 0), (2, .ref q_6), (0, .ref a1), (1, .int p1)]) hx hb dX12_countJoined_27 rfl hl (by decide) rfl (fun ls hl => ?_)
    refine lv_iconst (v := 0) hx hb dX12_countJoined_28 (by decide) ?_
    refine lv_istore (lv' := [(4, .int 0), (3, .int 0), (2, .ref q_6), (0, .ref a1), (1, .int p1)]) hx hb dX12_countJoined_29 hl (by decide) rfl (fun ls hl => ?_)
    refine xLoop (P := fun i_k_9 H locs ls => va_P (dC, dI) vwCl [(a1, .inr (17, [.int 0, .ref a2, .ref a3, .ref a4, .long 0])), (a2, .inl (T 2, 12, .inr (.inr (.inr (.inr (fun _ => none)))))), (q_6, .inl (T 3, 12, .inr (.inr (.inr (.inr (fun i => if i < 12 then some (r_7 i) else none)))))), ((r_7 0), .inl (T 1, 12, .inl (fun _ => 0))), ((r_7 1), .inl (T 1, 12, .inl (fun _ => 0))), ((r_7 2), .inl (T 1, 12, .inl (fun _ => 0))), ((r_7 3), .inl (T 1, 12, .inl (fun _ => 0))), ((r_7 4), .inl (T 1, 12, .inl (fun _ => 0))), ((r_7 5), .inl (T 1, 12, .inl (fun _ => 0))), ((r_7 6), .inl (T 1, 12, .inl (fun _ => 0))), ((r_7 7), .inl (T 1, 12, .inl (fun _ => 0))), ((r_7 8), .inl (T 1, 12, .inl (fun _ => 0))), ((r_7 9), .inl (T 1, 12, .inl (fun _ => 0))), ((r_7 10), .inl (T 1, 12, .inl (fun _ => 0))), ((r_7 11), .inl (T 1, 12, .inl (fun _ => 0)))] H ∧ va_D A [(a1, .inr (17, [.int 0, .ref a2, .ref a3, .ref a4, .long 0])), (a2, .inl (T 2, 12, .inr (.inr (.inr (.inr (fun _ => none)))))), (q_6, .inl (T 3, 12, .inr (.inr (.inr (.inr (fun i => if i < 12 then some (r_7 i) else none)))))), ((r_7 0), .inl (T 1, 12, .inl (fun _ => 0))), ((r_7 1), .inl (T 1, 12, .inl (fun _ => 0))), ((r_7 2), .inl (T 1, 12, .inl (fun _ => 0))), ((r_7 3), .inl (T 1, 12, .inl (fun _ => 0))), ((r_7 4), .inl (T 1, 12, .inl (fun _ => 0))), ((r_7 5), .inl (T 1, 12, .inl (fun _ => 0))), ((r_7 6), .inl (T 1, 12, .inl (fun _ => 0))), ((r_7 7), .inl (T 1, 12, .inl (fun _ => 0))), ((r_7 8), .inl (T 1, 12, .inl (fun _ => 0))), ((r_7 9), .inl (T 1, 12, .inl (fun _ => 0))), ((r_7 10), .inl (T 1, 12, .inl (fun _ => 0))), ((r_7 11), .inl (T 1, 12, .inl (fun _ => 0)))] ∧ va_S A s.heap H locs ∧ lv_has ls 6 [(4, .int (nI i_k_9)), (3, .int 0), (2, .ref q_6), (0, .ref a1), (1, .int p1)]) (N := 12) (fun i_k_9 H locs ls hi_k_9 hI ih_k_9 => ?_) (0) _ _ _ (by omega) ⟨hP, hD, hS, lv_sub hl [0, 1, 2, 3, 4] rfl⟩
    obtain ⟨hP, hD, hS, hl⟩ := hI
    refine lv_iload hx hb dX12_countJoined_31 (lv_at hl 0 rfl) ?_
    refine lv_bipush (v := 12) hx hb dX12_countJoined_33 (by decide) ?_
    have hz_11 : (nI i_k_9).toInt = ((i_k_9 : Nat) : Int) := nI_toInt (by omega)
    refine lv_icmp_ge (tgt := 102) hx hb dX12_countJoined_35 (by decide) (fun c_10 => ?_) (fun c_10 => ?_)
    · have nc_10 : 12 ≤ (nI i_k_9).toInt := (xi_le (by decide +kernel) rfl).mp c_10
      refine lv_iload_n hx hb dX12_countJoined_102 rfl (lv_at hl 1 rfl) ?_
      have hP9 := hP.sub (ws' := [(a1, .inr (17, [.int 0, .ref a2, .ref a3, .ref a4, .long 0]))]) [0] rfl
      have hD9 := hD.sub (ws' := [(a1, .inr (17, [.int 0, .ref a2, .ref a3, .ref a4, .long 0]))]) [0] (by decide) rfl
      exact W.iret (v := 0) hx hb hr (fun t ht hW => ⟨⟨_, _, rfl, rfl, (Or.inl ⟨c_1, rfl, by rw [ht]; exact hP9, hD9⟩)⟩, hS.F ht⟩) hS.2.2 dX12_countJoined_103
    · have nc_10 : ¬ (12 ≤ (nI i_k_9).toInt) := mt (xi_le (by decide +kernel) rfl).mpr c_10
      refine lv_iload hx hb dX12_countJoined_38 (lv_at hl 0 rfl) ?_
      refine lv_iconst (v := 1) hx hb dX12_countJoined_40 (by decide) ?_
      refine lv_iadd hx hb dX12_countJoined_41 ?_
      refine lv_topi (fun f_12 ef_12 => ?_)
      obtain rfl : f_12 = (nI (i_k_9 + 1)) := ef_12.trans (nI_add _ _)
      refine lv_istore (lv' := [(5, .int (nI (i_k_9 + 1))), (4, .int (nI i_k_9)), (3, .int 0), (2, .ref q_6), (0, .ref a1), (1, .int p1)]) hx hb dX12_countJoined_42 hl (by decide) rfl (fun ls hl => ?_)
      refine xLoop (P := fun i_k_13 H locs ls => va_P (dC, dI) vwCl [(a1, .inr (17, [.int 0, .ref a2, .ref a3, .ref a4, .long 0])), (a2, .inl (T 2, 12, .inr (.inr (.inr (.inr (fun _ => none)))))), (q_6, .inl (T 3, 12, .inr (.inr (.inr (.inr (fun i => if i < 12 then some (r_7 i) else none)))))), ((r_7 0), .inl (T 1, 12, .inl (fun _ => 0))), ((r_7 1), .inl (T 1, 12, .inl (fun _ => 0))), ((r_7 2), .inl (T 1, 12, .inl (fun _ => 0))), ((r_7 3), .inl (T 1, 12, .inl (fun _ => 0))), ((r_7 4), .inl (T 1, 12, .inl (fun _ => 0))), ((r_7 5), .inl (T 1, 12, .inl (fun _ => 0))), ((r_7 6), .inl (T 1, 12, .inl (fun _ => 0))), ((r_7 7), .inl (T 1, 12, .inl (fun _ => 0))), ((r_7 8), .inl (T 1, 12, .inl (fun _ => 0))), ((r_7 9), .inl (T 1, 12, .inl (fun _ => 0))), ((r_7 10), .inl (T 1, 12, .inl (fun _ => 0))), ((r_7 11), .inl (T 1, 12, .inl (fun _ => 0)))] H ∧ va_D A [(a1, .inr (17, [.int 0, .ref a2, .ref a3, .ref a4, .long 0])), (a2, .inl (T 2, 12, .inr (.inr (.inr (.inr (fun _ => none)))))), (q_6, .inl (T 3, 12, .inr (.inr (.inr (.inr (fun i => if i < 12 then some (r_7 i) else none)))))), ((r_7 0), .inl (T 1, 12, .inl (fun _ => 0))), ((r_7 1), .inl (T 1, 12, .inl (fun _ => 0))), ((r_7 2), .inl (T 1, 12, .inl (fun _ => 0))), ((r_7 3), .inl (T 1, 12, .inl (fun _ => 0))), ((r_7 4), .inl (T 1, 12, .inl (fun _ => 0))), ((r_7 5), .inl (T 1, 12, .inl (fun _ => 0))), ((r_7 6), .inl (T 1, 12, .inl (fun _ => 0))), ((r_7 7), .inl (T 1, 12, .inl (fun _ => 0))), ((r_7 8), .inl (T 1, 12, .inl (fun _ => 0))), ((r_7 9), .inl (T 1, 12, .inl (fun _ => 0))), ((r_7 10), .inl (T 1, 12, .inl (fun _ => 0))), ((r_7 11), .inl (T 1, 12, .inl (fun _ => 0)))] ∧ va_S A s.heap H locs ∧ lv_has ls 6 [(5, .int (nI i_k_13)), (4, .int (nI i_k_9)), (3, .int 0), (2, .ref q_6), (0, .ref a1), (1, .int p1)]) (N := 12) (fun i_k_13 H locs ls hi_k_13 hI ih_k_13 => ?_) (i_k_9 + 1) _ _ _ (by omega) ⟨hP, hD, hS, lv_sub hl [0, 1, 2, 3, 4, 5] rfl⟩
      obtain ⟨hP, hD, hS, hl⟩ := hI
      refine lv_iload hx hb dX12_countJoined_44 (lv_at hl 0 rfl) ?_
      refine lv_bipush (v := 12) hx hb dX12_countJoined_46 (by decide) ?_
      have hz_15 : (nI i_k_13).toInt = ((i_k_13 : Nat) : Int) := nI_toInt (by omega)
      refine lv_icmp_ge (tgt := 96) hx hb dX12_countJoined_48 (by decide) (fun c_14 => ?_) (fun c_14 => ?_)
      · have nc_14 : 12 ≤ (nI i_k_13).toInt := (xi_le (by decide +kernel) rfl).mp c_14
        refine lv_iinc (v := (nI (i_k_9 + 1))) (lv' := [(4, .int (nI (i_k_9 + 1))), (5, .int (nI i_k_13)), (3, .int 0), (2, .ref q_6), (0, .ref a1), (1, .int p1)]) hx hb dX12_countJoined_96 hl (k := 1) rfl (nI_1 _) (by decide) rfl (fun ls hl => ?_)
        refine lv_goto (tgt := 31) hx hb dX12_countJoined_99 (by decide) ?_
        exact ih_k_9 _ _ _ (by omega) ⟨hP, hD, hS, lv_sub hl [0, 2, 3, 4, 5] rfl⟩
      · have nc_14 : ¬ (12 ≤ (nI i_k_13).toInt) := mt (xi_le (by decide +kernel) rfl).mpr c_14
        refine lv_iload_n hx hb dX12_countJoined_51 rfl (lv_at hl 2 rfl) ?_
        refine lv_aload_n hx hb dX12_countJoined_52 rfl (lv_at hl 4 rfl) ?_
        refine lv_iload hx hb dX12_countJoined_53 (lv_at hl 1 rfl) ?_
        have hPc := hP.sub (ws' := [(a1, .inr (17, [.int 0, .ref a2, .ref a3, .ref a4, .long 0])), (a2, .inl (T 2, 12, .inr (.inr (.inr (.inr (fun _ => none))))))]) [0, 1] rfl
        have hDc := hD.sub (ws' := [(a1, .inr (17, [.int 0, .ref a2, .ref a3, .ref a4, .long 0])), (a2, .inl (T 2, 12, .inr (.inr (.inr (.inr (fun _ => none))))))]) [0, 1] (by decide) rfl
        have hFc := va_free (wc := [(a1, .inr (17, [.int 0, .ref a2, .ref a3, .ref a4, .long 0])), (a2, .inl (T 2, 12, .inr (.inr (.inr (.inr (fun _ => none))))))]) hD hS hA [0, 1] rfl
        refine va_calli (va_runV (As := [.int (nI i_k_9)]) (rest := [.int 0]) ⟨hx, hb, hml, hown, hts⟩ (xcX12_isThere l hst dC dI T a1 a2 a3 a4 H.size (nI i_k_9)) (cwV 1 hts gX12_countJoined_X12_isThere rfl rfl rfl (by decide +kernel) ⟨Nat.le_of_ble_eq_true rfl, Nat.le_of_ble_eq_true rfl⟩) ⟨xBlind, va_recv hK hPc (ci := 17) (q0 := 0) rfl rfl, xCall hK hG hS hPc hDc hFc⟩ rfl rfl hl.1 rfl (lv_room (Nat.le_of_ble_eq_true rfl)) dX12_countJoined_55 ⟨Nat.le_of_ble_eq_true rfl, Nat.le_of_ble_eq_true rfl⟩) hS (fun q _ h => hFc q h) hFc (fun r_9 u t H locs ht hvm hw hB hz1 hk1 hS => ?_)
        subst hw
        rcases hB with ⟨hr_9, hP1, hD1⟩
        rw [ht] at hP1
        subst hr_9
        obtain ⟨hP, hD⟩ := va_join (wr := [(q_6, .inl (T 3, 12, .inr (.inr (.inr (.inr (fun i => if i < 12 then some (r_7 i) else none)))))), ((r_7 0), .inl (T 1, 12, .inl (fun _ => 0))), ((r_7 1), .inl (T 1, 12, .inl (fun _ => 0))), ((r_7 2), .inl (T 1, 12, .inl (fun _ => 0))), ((r_7 3), .inl (T 1, 12, .inl (fun _ => 0))), ((r_7 4), .inl (T 1, 12, .inl (fun _ => 0))), ((r_7 5), .inl (T 1, 12, .inl (fun _ => 0))), ((r_7 6), .inl (T 1, 12, .inl (fun _ => 0))), ((r_7 7), .inl (T 1, 12, .inl (fun _ => 0))), ((r_7 8), .inl (T 1, 12, .inl (fun _ => 0))), ((r_7 9), .inl (T 1, 12, .inl (fun _ => 0))), ((r_7 10), .inl (T 1, 12, .inl (fun _ => 0))), ((r_7 11), .inl (T 1, 12, .inl (fun _ => 0)))]) (w1 := [(a1, .inr (17, [.int 0, .ref a2, .ref a3, .ref a4, .long 0])), (a2, .inl (T 2, 12, .inr (.inr (.inr (.inr (fun _ => none))))))]) hP hD [0, 1] [2, 3, 4, 5, 6, 7, 8, 9, 10, 11, 12, 13, 14] rfl rfl (by decide) (by decide) hk1 hFc hP1 hD1
        have hP := hP.sub (ws' := [(a1, .inr (17, [.int 0, .ref a2, .ref a3, .ref a4, .long 0])), (a2, .inl (T 2, 12, .inr (.inr (.inr (.inr (fun _ => none)))))), (q_6, .inl (T 3, 12, .inr (.inr (.inr (.inr (fun i => if i < 12 then some (r_7 i) else none)))))), ((r_7 0), .inl (T 1, 12, .inl (fun _ => 0))), ((r_7 1), .inl (T 1, 12, .inl (fun _ => 0))), ((r_7 2), .inl (T 1, 12, .inl (fun _ => 0))), ((r_7 3), .inl (T 1, 12, .inl (fun _ => 0))), ((r_7 4), .inl (T 1, 12, .inl (fun _ => 0))), ((r_7 5), .inl (T 1, 12, .inl (fun _ => 0))), ((r_7 6), .inl (T 1, 12, .inl (fun _ => 0))), ((r_7 7), .inl (T 1, 12, .inl (fun _ => 0))), ((r_7 8), .inl (T 1, 12, .inl (fun _ => 0))), ((r_7 9), .inl (T 1, 12, .inl (fun _ => 0))), ((r_7 10), .inl (T 1, 12, .inl (fun _ => 0))), ((r_7 11), .inl (T 1, 12, .inl (fun _ => 0)))]) [13, 14, 0, 1, 2, 3, 4, 5, 6, 7, 8, 9, 10, 11, 12] rfl
        have hD := hD.sub (ws' := [(a1, .inr (17, [.int 0, .ref a2, .ref a3, .ref a4, .long 0])), (a2, .inl (T 2, 12, .inr (.inr (.inr (.inr (fun _ => none)))))), (q_6, .inl (T 3, 12, .inr (.inr (.inr (.inr (fun i => if i < 12 then some (r_7 i) else none)))))), ((r_7 0), .inl (T 1, 12, .inl (fun _ => 0))), ((r_7 1), .inl (T 1, 12, .inl (fun _ => 0))), ((r_7 2), .inl (T 1, 12, .inl (fun _ => 0))), ((r_7 3), .inl (T 1, 12, .inl (fun _ => 0))), ((r_7 4), .inl (T 1, 12, .inl (fun _ => 0))), ((r_7 5), .inl (T 1, 12, .inl (fun _ => 0))), ((r_7 6), .inl (T 1, 12, .inl (fun _ => 0))), ((r_7 7), .inl (T 1, 12, .inl (fun _ => 0))), ((r_7 8), .inl (T 1, 12, .inl (fun _ => 0))), ((r_7 9), .inl (T 1, 12, .inl (fun _ => 0))), ((r_7 10), .inl (T 1, 12, .inl (fun _ => 0))), ((r_7 11), .inl (T 1, 12, .inl (fun _ => 0)))]) [13, 14, 0, 1, 2, 3, 4, 5, 6, 7, 8, 9, 10, 11, 12] (by decide) rfl
        clear hPc hDc hFc hP1 hD1 hk1 hz1 ht hvm
        refine lv_if_eq (tgt := 87) hx hb dX12_countJoined_58 (by decide) (fun c_17 => ?_) (fun c_17 => absurd (by decide) c_17)
        refine lv_iconst (v := 0) hx hb dX12_countJoined_87 (by decide) ?_
        refine lv_iadd hx hb dX12_countJoined_88 ?_
        refine lv_topi (fun f_18 ef_18 => ?_)
        obtain rfl : f_18 = 0 := ef_18.trans (by decide)
        refine lv_istore_n (lv' := [(3, .int 0), (5, .int (nI i_k_13)), (4, .int (nI i_k_9)), (2, .ref q_6), (0, .ref a1), (1, .int p1)]) hx hb dX12_countJoined_89 rfl hl (by decide) rfl (fun ls hl => ?_)
        refine lv_iinc (v := (nI (i_k_13 + 1))) (lv' := [(5, .int (nI (i_k_13 + 1))), (3, .int 0), (4, .int (nI i_k_9)), (2, .ref q_6), (0, .ref a1), (1, .int p1)]) hx hb dX12_countJoined_90 hl (k := 1) rfl (nI_1 _) (by decide) rfl (fun ls hl => ?_)
        refine lv_goto (tgt := 44) hx hb dX12_countJoined_93 (by decide) ?_
        exact ih_k_13 _ _ _ (by omega) ⟨hP, hD, hS, lv_sub hl [0, 2, 1, 3, 4, 5] rfl⟩
  · rw [ht] at hP1
    subst hr_9
    obtain ⟨hP, hD⟩ := va_join (wr := [(a1, .inr (17, [.int 0, .ref a2, .ref a3, .ref a4, .long 0])), (a2, .inl (T 2, 12, .inr (.inr (.inr (.inr (fun _ => none))))))]) (w1 := []) hP hD [] [0, 1] rfl rfl (by decide) (by decide) hk1 hFc hP1 hD1
    have hP : va_P (dC, dI) vwCl [(a1, .inr (17, [.int 0, .ref a2, .ref a3, .ref a4, .long 0])), (a2, .inl (T 2, 12, .inr (.inr (.inr (.inr (fun _ => none))))))] H := hP
    have hD : va_D A [(a1, .inr (17, [.int 0, .ref a2, .ref a3, .ref a4, .long 0])), (a2, .inl (T 2, 12, .inr (.inr (.inr (.inr (fun _ => none))))))] := hD
    clear hPc hDc hFc hP1 hD1 hk1 hz1 ht hvm
    refine lv_if_eq (tgt := 12) hx hb dX12_countJoined_5 (by decide) (fun c_19 => ?_) (fun c_19 => absurd (by decide) c_19)
    refine lv_iconst (v := 1) hx hb dX12_countJoined_12 (by decide) ?_
    have hPc := hP.sub (ws' := [(a1, .inr (17, [.int 0, .ref a2, .ref a3, .ref a4, .long 0]))]) [0] rfl
    have hDc := hD.sub (ws' := [(a1, .inr (17, [.int 0, .ref a2, .ref a3, .ref a4, .long 0]))]) [0] (by decide) rfl
    have hFc := va_free (wc := [(a1, .inr (17, [.int 0, .ref a2, .ref a3, .ref a4, .long 0]))]) hD hS hA [0] rfl
    refine va_calli (va_runV (As := [.int 1]) (rest := []) ⟨hx, hb, hml, hown, hts⟩ (xcX12_isWrong l hst dC dI T a1 a2 a3 a4 H.size) (cwV 1 hts gX12_countJoined_X12_isWrong rfl rfl rfl (by decide +kernel) ⟨Nat.le_of_ble_eq_true rfl, Nat.le_of_ble_eq_true rfl⟩) ⟨xBlind, va_recv hK hPc (ci := 17) (q0 := 0) rfl rfl, xCall hK hG hS hPc hDc hFc⟩ rfl rfl hl.1 rfl (lv_room (Nat.le_of_ble_eq_true rfl)) dX12_countJoined_13 ⟨Nat.le_of_ble_eq_true rfl, Nat.le_of_ble_eq_true rfl⟩) hS (fun q _ h => hFc q h) hFc (fun r_9 u t H locs ht hvm hw hB hz1 hk1 hS => ?_)
    subst hw
    rcases hB with ⟨hr_9, hP1, hD1⟩
    rw [ht] at hP1
    subst hr_9
    obtain ⟨hP, hD⟩ := va_join (wr := [(a2, .inl (T 2, 12, .inr (.inr (.inr (.inr (fun _ => none))))))]) (w1 := [(a1, .inr (17, [.int 1, .ref a2, .ref a3, .ref a4, .long 0]))]) hP hD [0] [1] rfl rfl (by decide) (by decide) hk1 hFc hP1 hD1
    have hP := hP.sub (ws' := [(a1, .inr (17, [.int 1, .ref a2, .ref a3, .ref a4, .long 0])), (a2, .inl (T 2, 12, .inr (.inr (.inr (.inr (fun _ => none))))))]) [1, 0] rfl
    have hD := hD.sub (ws' := [(a1, .inr (17, [.int 1, .ref a2, .ref a3, .ref a4, .long 0])), (a2, .inl (T 2, 12, .inr (.inr (.inr (.inr (fun _ => none))))))]) [1, 0] (by decide) rfl
    clear hPc hDc hFc hP1 hD1 hk1 hz1 ht hvm
    refine lv_if_eq (tgt := 21) hx hb dX12_countJoined_16 (by decide) (fun c_21 => absurd c_21 (by decide)) (fun c_21 => ?_)
    refine lv_iconst (v := 0) hx hb dX12_countJoined_19 (by decide) ?_
    have hP9 := hP.sub (ws' := [(a1, .inr (17, [.int 1, .ref a2, .ref a3, .ref a4, .long 0]))]) [0] rfl
    have hD9 := hD.sub (ws' := [(a1, .inr (17, [.int 1, .ref a2, .ref a3, .ref a4, .long 0]))]) [0] (by decide) rfl
    refine W.widen (k := 14) (n := 168) (Nat.le_of_ble_eq_true rfl) (Nat.le_of_ble_eq_true rfl) ?_
    exact W.iret (v := 0) hx hb hr (fun t ht hW => ⟨⟨_, _, rfl, rfl, (Or.inr (⟨c_2, rfl, by rw [ht]; exact hP9, hD9⟩))⟩, hS.F ht⟩) hS.2.2 dX12_countJoined_20
set_option maxHeartbeats 4000000 in
set_option maxRecDepth 100000 in
theorem xcX12_countNeighbours (l : Launch) (hst : l.stackTraces = false) (dC : Nat → ClassId) (dI : Nat → Nat → Nat) (T : Nat → ClassId) (a1 : Nat) (a2 : Nat) (a3 : Nat) (a4 : Nat) (sz : Nat) (p1 : Int32) : Met l yX12_countNeighbours wsX12_countNeighbours ({ frames := 3, cells := 0, slots := 0, locals := 67 } : Room) (va_Pc [.ref a1, .int p1] (fun U => xB dC dI T [(a1, .inr (17, [.int 0, .ref a2, .ref a3, .ref a4, .long 0])), (a2, .inl (T 2, 12, .inr (.inr (.inr (.inr (fun _ => none))))))] sz U)) (va_Qi (fun (r u : Int32) => r = u) (fun (u : Int32) (t : State) => 0 = u ∧ xE dC dI [(a1, .inr (17, [.int 1, .ref a2, .ref a3, .ref a4, .long 0]))] (va_A [(a1, .inr (17, [.int 0, .ref a2, .ref a3, .ref a4, .long 0])), (a2, .inl (T 2, 12, .inr (.inr (.inr (.inr (fun _ => none))))))] sz) t) (va_A [(a1, .inr (17, [.int 0, .ref a2, .ref a3, .ref a4, .long 0])), (a2, .inl (T 2, 12, .inr (.inr (.inr (.inr (fun _ => none))))))] sz)) 0 0 (va_A [(a1, .inr (17, [.int 0, .ref a2, .ref a3, .ref a4, .long 0])), (a2, .inl (T 2, 12, .inr (.inr (.inr (.inr (fun _ => none))))))] sz) := by
  refine Met.ofW (cc := cX12_countNeighbours) (maxL := 2) (ret := (some .int)) (by decide +kernel) rfl ?_
  intro p e s m args below meth c s₁ B hml hv
  obtain ⟨rfl, hsz, hP, hK, hD0, hG⟩ := hv
  have hx := B.exec
  have hb := B.bytes
  have hr := B.returns
  have hts := atoms_spec (ws := wsX12_countNeighbours) B.pre
  have hown : s.vm.findClass RX12 = some m.cls := findClass_of_methodNamed B.named
  have hlocks := B.notSynchronized
  subst hsz
  have hD := hD0.self (sz := s.heap.size)
  generalize hAe : va_A [(a1, .inr (17, [.int 0, .ref a2, .ref a3, .ref a4, .long 0])), (a2, .inl (T 2, 12, .inr (.inr (.inr (.inr (fun _ => none))))))] s.heap.size = A at hD hG ⊢
  have hA : ∀ q : Nat, s.heap.size ≤ q → A q := fun q h => by rw [← hAe]; exact Or.inr h
  have hS : va_S A s.heap s.heap [] := va_S.rf
  have hl := lv_entry ([.ref a1, .int p1]) (n := 2) (Nat.le_of_ble_eq_true rfl)
  rw [lg_entry_eq]
  generalize (lg_sl ([.ref a1, .int p1]) ++ List.replicate (2 - (lg_sl ([.ref a1, .int p1])).length) Slot.unset).toArray = ls at hl ⊢
  have hl : lv_has ls 2 [(0, .ref a1), (1, .int p1)] := hl
  refine lv_aload_n hx hb dX12_countNeighbours_0 rfl (lv_at hl 0 rfl) ?_
  refine lv_iload_n hx hb dX12_countNeighbours_1 rfl (lv_at hl 1 rfl) ?_
  have hPc := hP.sub (ws' := [(a1, .inr (17, [.int 0, .ref a2, .ref a3, .ref a4, .long 0])), (a2, .inl (T 2, 12, .inr (.inr (.inr (.inr (fun _ => none))))))]) [0, 1] rfl
  have hDc := hD.sub (ws' := [(a1, .inr (17, [.int 0, .ref a2, .ref a3, .ref a4, .long 0])), (a2, .inl (T 2, 12, .inr (.inr (.inr (.inr (fun _ => none))))))]) [0, 1] (by decide) rfl
  have hFc := va_free (wc := [(a1, .inr (17, [.int 0, .ref a2, .ref a3, .ref a4, .long 0])), (a2, .inl (T 2, 12, .inr (.inr (.inr (.inr (fun _ => none))))))]) hD hS hA [0, 1] rfl
  refine va_calli (va_runV (As := [.int p1]) (rest := []) ⟨hx, hb, hml, hown, hts⟩ (xcX12_isNoPoint l hst dC dI T a1 a2 a3 a4 s.heap.size p1) (cwV 1 hts gX12_countNeighbours_X12_isNoPoint rfl rfl rfl (by decide +kernel) ⟨Nat.le_of_ble_eq_true rfl, Nat.le_of_ble_eq_true rfl⟩) ⟨xBlind, va_recv hK hPc (ci := 17) (q0 := 0) rfl rfl, xCall hK hG hS hPc hDc hFc⟩ rfl rfl hl.1 rfl (lv_room (Nat.le_of_ble_eq_true rfl)) dX12_countNeighbours_2 ⟨Nat.le_of_ble_eq_true rfl, Nat.le_of_ble_eq_true rfl⟩) hS (fun q _ h => hFc q h) hFc (fun r_9 u t H locs ht hvm hw hB hz1 hk1 hS => ?_)
  subst hw
  rcases hB with ⟨hr_9, hP1, hD1⟩
  rw [ht] at hP1
  subst hr_9
  obtain ⟨hP, hD⟩ := va_join (wr := []) (w1 := [(a1, .inr (17, [.int 1, .ref a2, .ref a3, .ref a4, .long 0])), (a2, .inl (T 2, 12, .inr (.inr (.inr (.inr (fun _ => none))))))]) hP hD [0, 1] [] rfl rfl (by decide) (by decide) hk1 hFc hP1 hD1
  have hP : va_P (dC, dI) vwCl [(a1, .inr (17, [.int 1, .ref a2, .ref a3, .ref a4, .long 0])), (a2, .inl (T 2, 12, .inr (.inr (.inr (.inr (fun _ => none))))))] H := hP
  have hD : va_D A [(a1, .inr (17, [.int 1, .ref a2, .ref a3, .ref a4, .long 0])), (a2, .inl (T 2, 12, .inr (.inr (.inr (.inr (fun _ => none))))))] := hD
  clear hPc hDc hFc hP1 hD1 hk1 hz1 ht hvm
  refine lv_if_eq (tgt := 12) hx hb dX12_countNeighbours_5 (by decide) (fun c_2 => absurd c_2 (by decide)) (fun c_2 => ?_)
  refine lv_iconst (v := 0) hx hb dX12_countNeighbours_8 (by decide) ?_
  refine lv_goto (tgt := 17) hx hb dX12_countNeighbours_9 (by decide) ?_
  have hP9 := hP.sub (ws' := [(a1, .inr (17, [.int 1, .ref a2, .ref a3, .ref a4, .long 0]))]) [0] rfl
  have hD9 := hD.sub (ws' := [(a1, .inr (17, [.int 1, .ref a2, .ref a3, .ref a4, .long 0]))]) [0] (by decide) rfl
  exact W.iret (v := 0) hx hb hr (fun t ht hW => ⟨⟨_, _, rfl, rfl, ⟨rfl, by rw [ht]; exact hP9, hD9⟩⟩, hS.F ht⟩) hS.2.2 dX12_countNeighbours_17
set_option maxHeartbeats 4000000 in
set_option maxRecDepth 100000 in
theorem xcX12_countParts (l : Launch) (hst : l.stackTraces = false) (dC : Nat → ClassId) (dI : Nat → Nat → Nat) (T : Nat → ClassId) (a1 : Nat) (a2 : Nat) (a3 : Nat) (a4 : Nat) (sz : Nat) (p1 : Int32) : Met l yX12_countParts wsX12_countParts ({ frames := 5, cells := 13, slots := 156, locals := 117 } : Room) (va_Pc [.ref a1, .int p1] (fun U => xB dC dI T [(a1, .inr (17, [.int 0, .ref a2, .ref a3, .ref a4, .long 0])), (a2, .inl (T 2, 12, .inr (.inr (.inr (.inr (fun _ => none))))))] sz U)) (va_Qi (fun (r u : Int32) => r = u) (fun (u : Int32) (t : State) => ((((p1.toInt64).toInt < 0) ∨ ((¬ ((p1.toInt64).toInt < 0)) ∧ (((99999) : Int64).toInt < (p1.toInt64).toInt))) ∧ 0 = u ∧ xE dC dI [(a1, .inr (17, [.int 1, .ref a2, .ref a3, .ref a4, .long 0]))] (va_A [(a1, .inr (17, [.int 0, .ref a2, .ref a3, .ref a4, .long 0])), (a2, .inl (T 2, 12, .inr (.inr (.inr (.inr (fun _ => none))))))] sz) t) ∨ (((¬ ((p1.toInt64).toInt < 0)) ∧ (¬ (((99999) : Int64).toInt < (p1.toInt64).toInt))) ∧ 0 = u ∧ xE dC dI [(a1, .inr (17, [.int 0, .ref a2, .ref a3, .ref a4, .long 0]))] (va_A [(a1, .inr (17, [.int 0, .ref a2, .ref a3, .ref a4, .long 0])), (a2, .inl (T 2, 12, .inr (.inr (.inr (.inr (fun _ => none))))))] sz) t)) (va_A [(a1, .inr (17, [.int 0, .ref a2, .ref a3, .ref a4, .long 0])), (a2, .inl (T 2, 12, .inr (.inr (.inr (.inr (fun _ => none))))))] sz)) 13 156 (va_A [(a1, .inr (17, [.int 0, .ref a2, .ref a3, .ref a4, .long 0])), (a2, .inl (T 2, 12, .inr (.inr (.inr (.inr (fun _ => none))))))] sz) := by
  refine Met.ofW (cc := cX12_countParts) (maxL := 2) (ret := (some .int)) (by decide +kernel) rfl ?_
  intro p e s m args below meth c s₁ B hml hv
  obtain ⟨rfl, hsz, hP, hK, hD0, hG⟩ := hv
  have hx := B.exec
  have hb := B.bytes
  have hr := B.returns
  have hts := atoms_spec (ws := wsX12_countParts) B.pre
  have hown : s.vm.findClass RX12 = some m.cls := findClass_of_methodNamed B.named
  have hlocks := B.notSynchronized
  subst hsz
  have hD := hD0.self (sz := s.heap.size)
  generalize hAe : va_A [(a1, .inr (17, [.int 0, .ref a2, .ref a3, .ref a4, .long 0])), (a2, .inl (T 2, 12, .inr (.inr (.inr (.inr (fun _ => none))))))] s.heap.size = A at hD hG ⊢
  have hA : ∀ q : Nat, s.heap.size ≤ q → A q := fun q h => by rw [← hAe]; exact Or.inr h
  have hS : va_S A s.heap s.heap [] := va_S.rf
  have hl := lv_entry ([.ref a1, .int p1]) (n := 2) (Nat.le_of_ble_eq_true rfl)
  rw [lg_entry_eq]
  generalize (lg_sl ([.ref a1, .int p1]) ++ List.replicate (2 - (lg_sl ([.ref a1, .int p1])).length) Slot.unset).toArray = ls at hl ⊢
  have hl : lv_has ls 2 [(0, .ref a1), (1, .int p1)] := hl
  refine lv_aload_n hx hb dX12_countParts_0 rfl (lv_at hl 0 rfl) ?_
  refine lv_iload_n hx hb dX12_countParts_1 rfl (lv_at hl 1 rfl) ?_
  refine lv_i2l hx hb dX12_countParts_2 rfl ?_
  refine lv_lconst (v := 0) hx hb dX12_countParts_3 (by decide) ?_
  refine lv_ldc2 (v := 99999) hx hb hown (hts (.constantLong RX12 214 99999) (by decide +kernel)) dX12_countParts_4 ?_
  have hPc := hP.sub (ws' := []) [] rfl
  have hDc := hD.sub (ws' := []) [] (by decide) rfl
  have hFc := va_free (wc := []) hD hS hA [] rfl
  refine va_calli (va_runS (As := [.long p1.toInt64, .long 0, .long 99999]) (rest := [.ref a1]) ⟨hx, hb, hml, hown, hts⟩ (xcX12_isBetween_v4 l hst dC dI T s.heap.size p1.toInt64 99999) (cwS 3 hts gX12_countParts_X12_isBetween rfl rfl rfl (by decide +kernel) ⟨Nat.le_of_ble_eq_true rfl, Nat.le_of_ble_eq_true rfl⟩) ⟨xBlind, xCall hK hG hS hPc hDc hFc⟩ rfl rfl hl.1 rfl (lv_room (Nat.le_of_ble_eq_true rfl)) dX12_countParts_7 ⟨Nat.le_of_ble_eq_true rfl, Nat.le_of_ble_eq_true rfl⟩) hS (fun q _ h => hFc q h) hFc (fun r_9 u t H locs ht hvm hw hB hz1 hk1 hS => ?_)
  subst hw
  rcases hB with ⟨c_1, hr_9, hP1, hD1⟩ | ⟨c_2, hr_9, hP1, hD1⟩
  · have hz_3 : (p1.toInt64).toInt = p1.toInt := Int32.toInt_toInt64 _
    have hz_4 : ((99999) : Int64).toInt = 99999 := by decide +kernel
    rw [ht] at hP1
    subst hr_9
    obtain ⟨hP, hD⟩ := va_join (wr := [(a1, .inr (17, [.int 0, .ref a2, .ref a3, .ref a4, .long 0])), (a2, .inl (T 2, 12, .inr (.inr (.inr (.inr (fun _ => none))))))]) (w1 := []) hP hD [] [0, 1] rfl rfl (by decide) (by decide) hk1 hFc hP1 hD1
    have hP : va_P (dC, dI) vwCl [(a1, .inr (17, [.int 0, .ref a2, .ref a3, .ref a4, .long 0])), (a2, .inl (T 2, 12, .inr (.inr (.inr (.inr (fun _ => none))))))] H := hP
    have hD : va_D A [(a1, .inr (17, [.int 0, .ref a2, .ref a3, .ref a4, .long 0])), (a2, .inl (T 2, 12, .inr (.inr (.inr (.inr (fun _ => none))))))] := hD
    clear hPc hDc hFc hP1 hD1 hk1 hz1 ht hvm
    refine lv_if_eq (tgt := 17) hx hb dX12_countParts_10 (by decide) (fun c_5 => ?_) (fun c_5 => absurd (by decide) c_5)
    refine lv_iconst (v := 1) hx hb dX12_countParts_17 (by decide) ?_
    have hPc := hP.sub (ws' := [(a1, .inr (17, [.int 0, .ref a2, .ref a3, .ref a4, .long 0]))]) [0] rfl
    have hDc := hD.sub (ws' := [(a1, .inr (17, [.int 0, .ref a2, .ref a3, .ref a4, .long 0]))]) [0] (by decide) rfl
    have hFc := va_free (wc := [(a1, .inr (17, [.int 0, .ref a2, .ref a3, .ref a4, .long 0]))]) hD hS hA [0] rfl
    refine va_calli (va_runV (As := [.int 1]) (rest := []) ⟨hx, hb, hml, hown, hts⟩ (xcX12_isWrong l hst dC dI T a1 a2 a3 a4 H.size) (cwV 1 hts gX12_countParts_X12_isWrong rfl rfl rfl (by decide +kernel) ⟨Nat.le_of_ble_eq_true rfl, Nat.le_of_ble_eq_true rfl⟩) ⟨xBlind, va_recv hK hPc (ci := 17) (q0 := 0) rfl rfl, xCall hK hG hS hPc hDc hFc⟩ rfl rfl hl.1 rfl (lv_room (Nat.le_of_ble_eq_true rfl)) dX12_countParts_18 ⟨Nat.le_of_ble_eq_true rfl, Nat.le_of_ble_eq_true rfl⟩) hS (fun q _ h => hFc q h) hFc (fun r_9 u t H locs ht hvm hw hB hz1 hk1 hS => ?_)
    subst hw
    rcases hB with ⟨hr_9, hP1, hD1⟩
    rw [ht] at hP1
    subst hr_9
    obtain ⟨hP, hD⟩ := va_join (wr := [(a2, .inl (T 2, 12, .inr (.inr (.inr (.inr (fun _ => none))))))]) (w1 := [(a1, .inr (17, [.int 1, .ref a2, .ref a3, .ref a4, .long 0]))]) hP hD [0] [1] rfl rfl (by decide) (by decide) hk1 hFc hP1 hD1
    have hP := hP.sub (ws' := [(a1, .inr (17, [.int 1, .ref a2, .ref a3, .ref a4, .long 0])), (a2, .inl (T 2, 12, .inr (.inr (.inr (.inr (fun _ => none))))))]) [1, 0] rfl
    have hD := hD.sub (ws' := [(a1, .inr (17, [.int 1, .ref a2, .ref a3, .ref a4, .long 0])), (a2, .inl (T 2, 12, .inr (.inr (.inr (.inr (fun _ => none))))))]) [1, 0] (by decide) rfl
    clear hPc hDc hFc hP1 hD1 hk1 hz1 ht hvm
    refine lv_if_eq (tgt := 28) hx hb dX12_countParts_21 (by decide) (fun c_7 => absurd c_7 (by decide)) (fun c_7 => ?_)
    refine lv_iconst (v := 0) hx hb dX12_countParts_24 (by decide) ?_
    refine lv_goto (tgt := 40) hx hb dX12_countParts_25 (by decide) ?_
    have hP9 := hP.sub (ws' := [(a1, .inr (17, [.int 1, .ref a2, .ref a3, .ref a4, .long 0]))]) [0] rfl
    have hD9 := hD.sub (ws' := [(a1, .inr (17, [.int 1, .ref a2, .ref a3, .ref a4, .long 0]))]) [0] (by decide) rfl
    refine W.widen (k := 13) (n := 156) (Nat.le_of_ble_eq_true rfl) (Nat.le_of_ble_eq_true rfl) ?_
    exact W.iret (v := 0) hx hb hr (fun t ht hW => ⟨⟨_, _, rfl, rfl, (Or.inl ⟨c_1, rfl, by rw [ht]; exact hP9, hD9⟩)⟩, hS.F ht⟩) hS.2.2 dX12_countParts_40
  · have hz_8 : (p1.toInt64).toInt = p1.toInt := Int32.toInt_toInt64 _
    have hz_9 : ((99999) : Int64).toInt = 99999 := by decide +kernel
    rw [ht] at hP1
    subst hr_9
    obtain ⟨hP, hD⟩ := va_join (wr := [(a1, .inr (17, [.int 0, .ref a2, .ref a3, .ref a4, .long 0])), (a2, .inl (T 2, 12, .inr (.inr (.inr (.inr (fun _ => none))))))]) (w1 := []) hP hD [] [0, 1] rfl rfl (by decide) (by decide) hk1 hFc hP1 hD1
    have hP : va_P (dC, dI) vwCl [(a1, .inr (17, [.int 0, .ref a2, .ref a3, .ref a4, .long 0])), (a2, .inl (T 2, 12, .inr (.inr (.inr (.inr (fun _ => none))))))] H := hP
    have hD : va_D A [(a1, .inr (17, [.int 0, .ref a2, .ref a3, .ref a4, .long 0])), (a2, .inl (T 2, 12, .inr (.inr (.inr (.inr (fun _ => none))))))] := hD
    clear hPc hDc hFc hP1 hD1 hk1 hz1 ht hvm
    refine lv_if_eq (tgt := 17) hx hb dX12_countParts_10 (by decide) (fun c_10 => absurd c_10 (by decide)) (fun c_10 => ?_)
    refine lv_iconst (v := 0) hx hb dX12_countParts_13 (by decide) ?_
    refine lv_goto (tgt := 18) hx hb dX12_countParts_14 (by decide) ?_
    have hPc := hP.sub (ws' := [(a1, .inr (17, [.int 0, .ref a2, .ref a3, .ref a4, .long 0]))]) [0] rfl
    have hDc := hD.sub (ws' := [(a1, .inr (17, [.int 0, .ref a2, .ref a3, .ref a4, .long 0]))]) [0] (by decide) rfl
    have hFc := va_free (wc := [(a1, .inr (17, [.int 0, .ref a2, .ref a3, .ref a4, .long 0]))]) hD hS hA [0] rfl
    refine va_calli (va_runV (As := [.int 0]) (rest := []) ⟨hx, hb, hml, hown, hts⟩ (xcX12_isWrong_v2 l hst dC dI T a1 a2 a3 a4 H.size) (cwV 1 hts gX12_countParts_X12_isWrong rfl rfl rfl (by decide +kernel) ⟨Nat.le_of_ble_eq_true rfl, Nat.le_of_ble_eq_true rfl⟩) ⟨xBlind, va_recv hK hPc (ci := 17) (q0 := 0) rfl rfl, xCall hK hG hS hPc hDc hFc⟩ rfl rfl hl.1 rfl (lv_room (Nat.le_of_ble_eq_true rfl)) dX12_countParts_18 ⟨Nat.le_of_ble_eq_true rfl, Nat.le_of_ble_eq_true rfl⟩) hS (fun q _ h => hFc q h) hFc (fun r_9 u t H locs ht hvm hw hB hz1 hk1 hS => ?_)
    subst hw
    rcases hB with ⟨hr_9, hP1, hD1⟩
    rw [ht] at hP1
    subst hr_9
    obtain ⟨hP, hD⟩ := va_join (wr := [(a2, .inl (T 2, 12, .inr (.inr (.inr (.inr (fun _ => none))))))]) (w1 := [(a1, .inr (17, [.int 0, .ref a2, .ref a3, .ref a4, .long 0]))]) hP hD [0] [1] rfl rfl (by decide) (by decide) hk1 hFc hP1 hD1
    have hP := hP.sub (ws' := [(a1, .inr (17, [.int 0, .ref a2, .ref a3, .ref a4, .long 0])), (a2, .inl (T 2, 12, .inr (.inr (.inr (.inr (fun _ => none))))))]) [1, 0] rfl
    have hD := hD.sub (ws' := [(a1, .inr (17, [.int 0, .ref a2, .ref a3, .ref a4, .long 0])), (a2, .inl (T 2, 12, .inr (.inr (.inr (.inr (fun _ => none))))))]) [1, 0] (by decide) rfl
    clear hPc hDc hFc hP1 hD1 hk1 hz1 ht hvm
    refine lv_if_eq (tgt := 28) hx hb dX12_countParts_21 (by decide) (fun c_12 => ?_) (fun c_12 => absurd (by decide) c_12)
    refine lv_aload_n hx hb dX12_countParts_28 rfl (lv_at hl 0 rfl) ?_
    refine lv_iload_n hx hb dX12_countParts_29 rfl (lv_at hl 1 rfl) ?_
    have hPc := hP.sub (ws' := [(a1, .inr (17, [.int 0, .ref a2, .ref a3, .ref a4, .long 0])), (a2, .inl (T 2, 12, .inr (.inr (.inr (.inr (fun _ => none))))))]) [0, 1] rfl
    have hDc := hD.sub (ws' := [(a1, .inr (17, [.int 0, .ref a2, .ref a3, .ref a4, .long 0])), (a2, .inl (T 2, 12, .inr (.inr (.inr (.inr (fun _ => none))))))]) [0, 1] (by decide) rfl
    have hFc := va_free (wc := [(a1, .inr (17, [.int 0, .ref a2, .ref a3, .ref a4, .long 0])), (a2, .inl (T 2, 12, .inr (.inr (.inr (.inr (fun _ => none))))))]) hD hS hA [0, 1] rfl
    refine va_callr (va_runV (As := [.int p1]) (rest := []) ⟨hx, hb, hml, hown, hts⟩ (xcX12_joined l hst dC dI T a1 a2 a3 a4 H.size p1) (cwV 1 hts gX12_countParts_X12_joined rfl rfl rfl (by decide +kernel) ⟨Nat.le_of_ble_eq_true rfl, Nat.le_of_ble_eq_true rfl⟩) ⟨xBlind, va_recv hK hPc (ci := 17) (q0 := 0) rfl rfl, xCall hK hG hS hPc hDc hFc⟩ rfl rfl hl.1 rfl (lv_room (Nat.le_of_ble_eq_true rfl)) dX12_countParts_30 ⟨Nat.le_of_ble_eq_true rfl, Nat.le_of_ble_eq_true rfl⟩) hS (fun q _ h => hFc q h) hFc (fun u ra t H locs ht hvm hw hB hz1 hk1 hS => ?_)
    rcases hB with ⟨q_13, r_14, hr_9, hP1, hD1⟩
    rw [ht] at hP1
    subst hr_9
    obtain ⟨hP, hD⟩ := va_join (wr := []) (w1 := [(a1, .inr (17, [.int 0, .ref a2, .ref a3, .ref a4, .long 0])), (a2, .inl (T 2, 12, .inr (.inr (.inr (.inr (fun _ => none)))))), (q_13, .inl (T 3, 12, .inr (.inr (.inr (.inr (fun i => if i < 12 then some (r_14 i) else none)))))), ((r_14 0), .inl (T 1, 12, .inl (fun _ => 0))), ((r_14 1), .inl (T 1, 12, .inl (fun _ => 0))), ((r_14 2), .inl (T 1, 12, .inl (fun _ => 0))), ((r_14 3), .inl (T 1, 12, .inl (fun _ => 0))), ((r_14 4), .inl (T 1, 12, .inl (fun _ => 0))), ((r_14 5), .inl (T 1, 12, .inl (fun _ => 0))), ((r_14 6), .inl (T 1, 12, .inl (fun _ => 0))), ((r_14 7), .inl (T 1, 12, .inl (fun _ => 0))), ((r_14 8), .inl (T 1, 12, .inl (fun _ => 0))), ((r_14 9), .inl (T 1, 12, .inl (fun _ => 0))), ((r_14 10), .inl (T 1, 12, .inl (fun _ => 0))), ((r_14 11), .inl (T 1, 12, .inl (fun _ => 0)))]) hP hD [0, 1] [] rfl rfl (by decide) (by decide) hk1 hFc hP1 hD1
    have hP : va_P (dC, dI) vwCl [(a1, .inr (17, [.int 0, .ref a2, .ref a3, .ref a4, .long 0])), (a2, .inl (T 2, 12, .inr (.inr (.inr (.inr (fun _ => none)))))), (q_13, .inl (T 3, 12, .inr (.inr (.inr (.inr (fun i => if i < 12 then some (r_14 i) else none)))))), ((r_14 0), .inl (T 1, 12, .inl (fun _ => 0))), ((r_14 1), .inl (T 1, 12, .inl (fun _ => 0))), ((r_14 2), .inl (T 1, 12, .inl (fun _ => 0))), ((r_14 3), .inl (T 1, 12, .inl (fun _ => 0))), ((r_14 4), .inl (T 1, 12, .inl (fun _ => 0))), ((r_14 5), .inl (T 1, 12, .inl (fun _ => 0))), ((r_14 6), .inl (T 1, 12, .inl (fun _ => 0))), ((r_14 7), .inl (T 1, 12, .inl (fun _ => 0))), ((r_14 8), .inl (T 1, 12, .inl (fun _ => 0))), ((r_14 9), .inl (T 1, 12, .inl (fun _ => 0))), ((r_14 10), .inl (T 1, 12, .inl (fun _ => 0))), ((r_14 11), .inl (T 1, 12, .inl (fun _ => 0)))] H := hP
    have hD : va_D A [(a1, .inr (17, [.int 0, .ref a2, .ref a3, .ref a4, .long 0])), (a2, .inl (T 2, 12, .inr (.inr (.inr (.inr (fun _ => none)))))), (q_13, .inl (T 3, 12, .inr (.inr (.inr (.inr (fun i => if i < 12 then some (r_14 i) else none)))))), ((r_14 0), .inl (T 1, 12, .inl (fun _ => 0))), ((r_14 1), .inl (T 1, 12, .inl (fun _ => 0))), ((r_14 2), .inl (T 1, 12, .inl (fun _ => 0))), ((r_14 3), .inl (T 1, 12, .inl (fun _ => 0))), ((r_14 4), .inl (T 1, 12, .inl (fun _ => 0))), ((r_14 5), .inl (T 1, 12, .inl (fun _ => 0))), ((r_14 6), .inl (T 1, 12, .inl (fun _ => 0))), ((r_14 7), .inl (T 1, 12, .inl (fun _ => 0))), ((r_14 8), .inl (T 1, 12, .inl (fun _ => 0))), ((r_14 9), .inl (T 1, 12, .inl (fun _ => 0))), ((r_14 10), .inl (T 1, 12, .inl (fun _ => 0))), ((r_14 11), .inl (T 1, 12, .inl (fun _ => 0)))] := hD
    clear hPc hDc hFc hP1 hD1 hk1 hz1 ht hvm
    refine lv_aload_n hx hb dX12_countParts_33 rfl (lv_at hl 0 rfl) ?_
    have hPc := hP.sub (ws' := [(a1, .inr (17, [.int 0, .ref a2, .ref a3, .ref a4, .long 0])), (a2, .inl (T 2, 12, .inr (.inr (.inr (.inr (fun _ => none))))))]) [0, 1] rfl
    have hDc := hD.sub (ws' := [(a1, .inr (17, [.int 0, .ref a2, .ref a3, .ref a4, .long 0])), (a2, .inl (T 2, 12, .inr (.inr (.inr (.inr (fun _ => none))))))]) [0, 1] (by decide) rfl
    have hFc := va_free (wc := [(a1, .inr (17, [.int 0, .ref a2, .ref a3, .ref a4, .long 0])), (a2, .inl (T 2, 12, .inr (.inr (.inr (.inr (fun _ => none))))))]) hD hS hA [0, 1] rfl
    refine va_calli (va_runV (As := []) (rest := [.ref q_13]) ⟨hx, hb, hml, hown, hts⟩ (xcX12_all l hst dC dI T a1 a2 a3 a4 H.size) (cwV 0 hts gX12_countParts_X12_all rfl rfl rfl (by decide +kernel) ⟨Nat.le_of_ble_eq_true rfl, Nat.le_of_ble_eq_true rfl⟩) ⟨xBlind, va_recv hK hPc (ci := 17) (q0 := 0) rfl rfl, xCall hK hG hS hPc hDc hFc⟩ rfl rfl hl.1 rfl (lv_room (Nat.le_of_ble_eq_true rfl)) dX12_countParts_34 ⟨Nat.le_of_ble_eq_true rfl, Nat.le_of_ble_eq_true rfl⟩) hS (fun q _ h => hFc q h) hFc (fun r_9 u t H locs ht hvm hw hB hz1 hk1 hS => ?_)
    subst hw
    rcases hB with ⟨hr_9, hP1, hD1⟩
    rw [ht] at hP1
    subst hr_9
    obtain ⟨hP, hD⟩ := va_join (wr := [(q_13, .inl (T 3, 12, .inr (.inr (.inr (.inr (fun i => if i < 12 then some (r_14 i) else none)))))), ((r_14 0), .inl (T 1, 12, .inl (fun _ => 0))), ((r_14 1), .inl (T 1, 12, .inl (fun _ => 0))), ((r_14 2), .inl (T 1, 12, .inl (fun _ => 0))), ((r_14 3), .inl (T 1, 12, .inl (fun _ => 0))), ((r_14 4), .inl (T 1, 12, .inl (fun _ => 0))), ((r_14 5), .inl (T 1, 12, .inl (fun _ => 0))), ((r_14 6), .inl (T 1, 12, .inl (fun _ => 0))), ((r_14 7), .inl (T 1, 12, .inl (fun _ => 0))), ((r_14 8), .inl (T 1, 12, .inl (fun _ => 0))), ((r_14 9), .inl (T 1, 12, .inl (fun _ => 0))), ((r_14 10), .inl (T 1, 12, .inl (fun _ => 0))), ((r_14 11), .inl (T 1, 12, .inl (fun _ => 0)))]) (w1 := [(a1, .inr (17, [.int 0, .ref a2, .ref a3, .ref a4, .long 0])), (a2, .inl (T 2, 12, .inr (.inr (.inr (.inr (fun _ => none))))))]) hP hD [0, 1] [2, 3, 4, 5, 6, 7, 8, 9, 10, 11, 12, 13, 14] rfl rfl (by decide) (by decide) hk1 hFc hP1 hD1
    have hP := hP.sub (ws' := [(a1, .inr (17, [.int 0, .ref a2, .ref a3, .ref a4, .long 0])), (a2, .inl (T 2, 12, .inr (.inr (.inr (.inr (fun _ => none)))))), (q_13, .inl (T 3, 12, .inr (.inr (.inr (.inr (fun i => if i < 12 then some (r_14 i) else none)))))), ((r_14 0), .inl (T 1, 12, .inl (fun _ => 0))), ((r_14 1), .inl (T 1, 12, .inl (fun _ => 0))), ((r_14 2), .inl (T 1, 12, .inl (fun _ => 0))), ((r_14 3), .inl (T 1, 12, .inl (fun _ => 0))), ((r_14 4), .inl (T 1, 12, .inl (fun _ => 0))), ((r_14 5), .inl (T 1, 12, .inl (fun _ => 0))), ((r_14 6), .inl (T 1, 12, .inl (fun _ => 0))), ((r_14 7), .inl (T 1, 12, .inl (fun _ => 0))), ((r_14 8), .inl (T 1, 12, .inl (fun _ => 0))), ((r_14 9), .inl (T 1, 12, .inl (fun _ => 0))), ((r_14 10), .inl (T 1, 12, .inl (fun _ => 0))), ((r_14 11), .inl (T 1, 12, .inl (fun _ => 0)))]) [13, 14, 0, 1, 2, 3, 4, 5, 6, 7, 8, 9, 10, 11, 12] rfl
    have hD := hD.sub (ws' := [(a1, .inr (17, [.int 0, .ref a2, .ref a3, .ref a4, .long 0])), (a2, .inl (T 2, 12, .inr (.inr (.inr (.inr (fun _ => none)))))), (q_13, .inl (T 3, 12, .inr (.inr (.inr (.inr (fun i => if i < 12 then some (r_14 i) else none)))))), ((r_14 0), .inl (T 1, 12, .inl (fun _ => 0))), ((r_14 1), .inl (T 1, 12, .inl (fun _ => 0))), ((r_14 2), .inl (T 1, 12, .inl (fun _ => 0))), ((r_14 3), .inl (T 1, 12, .inl (fun _ => 0))), ((r_14 4), .inl (T 1, 12, .inl (fun _ => 0))), ((r_14 5), .inl (T 1, 12, .inl (fun _ => 0))), ((r_14 6), .inl (T 1, 12, .inl (fun _ => 0))), ((r_14 7), .inl (T 1, 12, .inl (fun _ => 0))), ((r_14 8), .inl (T 1, 12, .inl (fun _ => 0))), ((r_14 9), .inl (T 1, 12, .inl (fun _ => 0))), ((r_14 10), .inl (T 1, 12, .inl (fun _ => 0))), ((r_14 11), .inl (T 1, 12, .inl (fun _ => 0)))]) [13, 14, 0, 1, 2, 3, 4, 5, 6, 7, 8, 9, 10, 11, 12] (by decide) rfl
    clear hPc hDc hFc hP1 hD1 hk1 hz1 ht hvm
    have hPc := hP.sub (ws' := [(q_13, .inl (T 3, 12, .inr (.inr (.inr (.inr (fun i => if i < 12 then some (r_14 i) else none))))))]) [2] rfl
    have hDc := hD.sub (ws' := [(q_13, .inl (T 3, 12, .inr (.inr (.inr (.inr (fun i => if i < 12 then some (r_14 i) else none))))))]) [2] (by decide) rfl
    have hFc := va_free (wc := [(q_13, .inl (T 3, 12, .inr (.inr (.inr (.inr (fun i => if i < 12 then some (r_14 i) else none))))))]) hD hS hA [2] rfl
    refine va_calli (va_runS (As := [.ref q_13, .int 0]) (rest := []) ⟨hx, hb, hml, hown, hts⟩ (xcX12_parts l hst dC dI T q_13 H.size r_14) (cwS 2 hts gX12_countParts_X12_parts rfl rfl rfl (by decide +kernel) ⟨Nat.le_of_ble_eq_true rfl, Nat.le_of_ble_eq_true rfl⟩) ⟨xBlind, xCall hK hG hS hPc hDc hFc⟩ rfl rfl hl.1 rfl (lv_room (Nat.le_of_ble_eq_true rfl)) dX12_countParts_37 ⟨Nat.le_of_ble_eq_true rfl, Nat.le_of_ble_eq_true rfl⟩) hS (fun q _ h => hFc q h) hFc (fun r_9 u t H locs ht hvm hw hB hz1 hk1 hS => ?_)
    subst hw
    rcases hB with ⟨hr_9, hP1, hD1⟩
    rw [ht] at hP1
    subst hr_9
    obtain ⟨hP, hD⟩ := va_join (wr := [(a1, .inr (17, [.int 0, .ref a2, .ref a3, .ref a4, .long 0])), (a2, .inl (T 2, 12, .inr (.inr (.inr (.inr (fun _ => none)))))), ((r_14 0), .inl (T 1, 12, .inl (fun _ => 0))), ((r_14 1), .inl (T 1, 12, .inl (fun _ => 0))), ((r_14 2), .inl (T 1, 12, .inl (fun _ => 0))), ((r_14 3), .inl (T 1, 12, .inl (fun _ => 0))), ((r_14 4), .inl (T 1, 12, .inl (fun _ => 0))), ((r_14 5), .inl (T 1, 12, .inl (fun _ => 0))), ((r_14 6), .inl (T 1, 12, .inl (fun _ => 0))), ((r_14 7), .inl (T 1, 12, .inl (fun _ => 0))), ((r_14 8), .inl (T 1, 12, .inl (fun _ => 0))), ((r_14 9), .inl (T 1, 12, .inl (fun _ => 0))), ((r_14 10), .inl (T 1, 12, .inl (fun _ => 0))), ((r_14 11), .inl (T 1, 12, .inl (fun _ => 0)))]) (w1 := [(q_13, .inl (T 3, 12, .inr (.inr (.inr (.inr (fun i => if i < 12 then some (r_14 i) else none))))))]) hP hD [2] [0, 1, 3, 4, 5, 6, 7, 8, 9, 10, 11, 12, 13, 14] rfl rfl (by decide) (by decide) hk1 hFc hP1 hD1
    have hP := hP.sub (ws' := [(a1, .inr (17, [.int 0, .ref a2, .ref a3, .ref a4, .long 0])), (a2, .inl (T 2, 12, .inr (.inr (.inr (.inr (fun _ => none)))))), (q_13, .inl (T 3, 12, .inr (.inr (.inr (.inr (fun i => if i < 12 then some (r_14 i) else none)))))), ((r_14 0), .inl (T 1, 12, .inl (fun _ => 0))), ((r_14 1), .inl (T 1, 12, .inl (fun _ => 0))), ((r_14 2), .inl (T 1, 12, .inl (fun _ => 0))), ((r_14 3), .inl (T 1, 12, .inl (fun _ => 0))), ((r_14 4), .inl (T 1, 12, .inl (fun _ => 0))), ((r_14 5), .inl (T 1, 12, .inl (fun _ => 0))), ((r_14 6), .inl (T 1, 12, .inl (fun _ => 0))), ((r_14 7), .inl (T 1, 12, .inl (fun _ => 0))), ((r_14 8), .inl (T 1, 12, .inl (fun _ => 0))), ((r_14 9), .inl (T 1, 12, .inl (fun _ => 0))), ((r_14 10), .inl (T 1, 12, .inl (fun _ => 0))), ((r_14 11), .inl (T 1, 12, .inl (fun _ => 0)))]) [0, 1, 14, 2, 3, 4, 5, 6, 7, 8, 9, 10, 11, 12, 13] rfl
    have hD := hD.sub (ws' := [(a1, .inr (17, [.int 0, .ref a2, .ref a3, .ref a4, .long 0])), (a2, .inl (T 2, 12, .inr (.inr (.inr (.inr (fun _ => none)))))), (q_13, .inl (T 3, 12, .inr (.inr (.inr (.inr (fun i => if i < 12 then some (r_14 i) else none)))))), ((r_14 0), .inl (T 1, 12, .inl (fun _ => 0))), ((r_14 1), .inl (T 1, 12, .inl (fun _ => 0))), ((r_14 2), .inl (T 1, 12, .inl (fun _ => 0))), ((r_14 3), .inl (T 1, 12, .inl (fun _ => 0))), ((r_14 4), .inl (T 1, 12, .inl (fun _ => 0))), ((r_14 5), .inl (T 1, 12, .inl (fun _ => 0))), ((r_14 6), .inl (T 1, 12, .inl (fun _ => 0))), ((r_14 7), .inl (T 1, 12, .inl (fun _ => 0))), ((r_14 8), .inl (T 1, 12, .inl (fun _ => 0))), ((r_14 9), .inl (T 1, 12, .inl (fun _ => 0))), ((r_14 10), .inl (T 1, 12, .inl (fun _ => 0))), ((r_14 11), .inl (T 1, 12, .inl (fun _ => 0)))]) [0, 1, 14, 2, 3, 4, 5, 6, 7, 8, 9, 10, 11, 12, 13] (by decide) rfl
    clear hPc hDc hFc hP1 hD1 hk1 hz1 ht hvm
    have hP9 := hP.sub (ws' := [(a1, .inr (17, [.int 0, .ref a2, .ref a3, .ref a4, .long 0]))]) [0] rfl
    have hD9 := hD.sub (ws' := [(a1, .inr (17, [.int 0, .ref a2, .ref a3, .ref a4, .long 0]))]) [0] (by decide) rfl
    exact W.iret (v := 0) hx hb hr (fun t ht hW => ⟨⟨_, _, rfl, rfl, (Or.inr (⟨c_2, rfl, by rw [ht]; exact hP9, hD9⟩))⟩, hS.F ht⟩) hS.2.2 dX12_countParts_40
set_option maxHeartbeats 4000000 in
set_option maxRecDepth 100000 in
theorem xcX12_countPoints (l : Launch) (hst : l.stackTraces = false) (dC : Nat → ClassId) (dI : Nat → Nat → Nat) (T : Nat → ClassId) (a1 : Nat) (a2 : Nat) (a3 : Nat) (a4 : Nat) (sz : Nat) : Met l yX12_countPoints wsX12_countPoints ({ frames := 1, cells := 0, slots := 0, locals := 25 } : Room) (va_Pc [.ref a1] (fun U => xB dC dI T [(a1, .inr (17, [.int 0, .ref a2, .ref a3, .ref a4, .long 0])), (a2, .inl (T 2, 12, .inr (.inr (.inr (.inr (fun _ => none))))))] sz U)) (va_Qi (fun (r u : Int32) => r = u) (fun (u : Int32) (t : State) => 0 = u ∧ xE dC dI [(a1, .inr (17, [.int 0, .ref a2, .ref a3, .ref a4, .long 0]))] (va_A [(a1, .inr (17, [.int 0, .ref a2, .ref a3, .ref a4, .long 0])), (a2, .inl (T 2, 12, .inr (.inr (.inr (.inr (fun _ => none))))))] sz) t) (va_A [(a1, .inr (17, [.int 0, .ref a2, .ref a3, .ref a4, .long 0])), (a2, .inl (T 2, 12, .inr (.inr (.inr (.inr (fun _ => none))))))] sz)) 0 0 (va_A [(a1, .inr (17, [.int 0, .ref a2, .ref a3, .ref a4, .long 0])), (a2, .inl (T 2, 12, .inr (.inr (.inr (.inr (fun _ => none))))))] sz) := by
  refine Met.ofW (cc := cX12_countPoints) (maxL := 1) (ret := (some .int)) (by decide +kernel) rfl ?_
  intro p e s m args below meth c s₁ B hml hv
  obtain ⟨rfl, hsz, hP, hK, hD0, hG⟩ := hv
  have hx := B.exec
  have hb := B.bytes
  have hr := B.returns
  have hts := atoms_spec (ws := wsX12_countPoints) B.pre
  have hown : s.vm.findClass RX12 = some m.cls := findClass_of_methodNamed B.named
  have hlocks := B.notSynchronized
  have hin_X12 : ∀ w ∈ wsX120, w ∈ wsX12_countPoints := by decide +kernel
  subst hsz
  have hD := hD0.self (sz := s.heap.size)
  generalize hAe : va_A [(a1, .inr (17, [.int 0, .ref a2, .ref a3, .ref a4, .long 0])), (a2, .inl (T 2, 12, .inr (.inr (.inr (.inr (fun _ => none))))))] s.heap.size = A at hD hG ⊢
  have hA : ∀ q : Nat, s.heap.size ≤ q → A q := fun q h => by rw [← hAe]; exact Or.inr h
  have hS : va_S A s.heap s.heap [] := va_S.rf
  have hl := lv_entry ([.ref a1]) (n := 1) (Nat.le_of_ble_eq_true rfl)
  rw [lg_entry_eq]
  generalize (lg_sl ([.ref a1]) ++ List.replicate (1 - (lg_sl ([.ref a1])).length) Slot.unset).toArray = ls at hl ⊢
  have hl : lv_has ls 1 [(0, .ref a1)] := hl
  refine lv_aload_n hx hb dX12_countPoints_0 rfl (lv_at hl 0 rfl) ?_
  refine lv_iconst (v := 0) hx hb dX12_countPoints_1 (by decide) ?_
  refine va_put (D := (dC, dI)) (ci := 17) (v := .int 0) (ty := .int) (C := RX12) (T := TX12) (N := 5) hx hb hts hin_X12 tyX12 tyX12_ok nmX12 hown hK hP hD hS 0 rfl rfl 0 (by decide) (hts (.fieldLink RX12 25 "NearestwardModel" "thrown" "I") (by decide +kernel)) (fun _ h9 => h9) rfl (by decide +kernel) rfl rfl (Nat.le_of_ble_eq_true rfl) dX12_countPoints_2 (fun H locs hP hD hS => ?_)
  have hP : va_P (dC, dI) vwCl [(a1, .inr (17, [.int 0, .ref a2, .ref a3, .ref a4, .long 0])), (a2, .inl (T 2, 12, .inr (.inr (.inr (.inr (fun _ => none))))))] H := hP
  have hD : va_D A [(a1, .inr (17, [.int 0, .ref a2, .ref a3, .ref a4, .long 0])), (a2, .inl (T 2, 12, .inr (.inr (.inr (.inr (fun _ => none))))))] := hD
  refine lv_aload_n hx hb dX12_countPoints_5 rfl (lv_at hl 0 rfl) ?_
  have hPc := hP.sub (ws' := [(a1, .inr (17, [.int 0, .ref a2, .ref a3, .ref a4, .long 0])), (a2, .inl (T 2, 12, .inr (.inr (.inr (.inr (fun _ => none))))))]) [0, 1] rfl
  have hDc := hD.sub (ws' := [(a1, .inr (17, [.int 0, .ref a2, .ref a3, .ref a4, .long 0])), (a2, .inl (T 2, 12, .inr (.inr (.inr (.inr (fun _ => none))))))]) [0, 1] (by decide) rfl
  have hFc := va_free (wc := [(a1, .inr (17, [.int 0, .ref a2, .ref a3, .ref a4, .long 0])), (a2, .inl (T 2, 12, .inr (.inr (.inr (.inr (fun _ => none))))))]) hD hS hA [0, 1] rfl
  refine va_calli (va_runV (As := []) (rest := []) ⟨hx, hb, hml, hown, hts⟩ (xcX12_many l hst dC dI T a1 a2 a3 a4 H.size) (cwV 0 hts gX12_countPoints_X12_many rfl rfl rfl (by decide +kernel) ⟨Nat.le_of_ble_eq_true rfl, Nat.le_of_ble_eq_true rfl⟩) ⟨xBlind, va_recv hK hPc (ci := 17) (q0 := 0) rfl rfl, xCall hK hG hS hPc hDc hFc⟩ rfl rfl hl.1 rfl (lv_room (Nat.le_of_ble_eq_true rfl)) dX12_countPoints_6 ⟨Nat.le_of_ble_eq_true rfl, Nat.le_of_ble_eq_true rfl⟩) hS (fun q _ h => hFc q h) hFc (fun r_9 u t H locs ht hvm hw hB hz1 hk1 hS => ?_)
  subst hw
  rcases hB with ⟨hr_9, hP1, hD1⟩
  rw [ht] at hP1
  subst hr_9
  obtain ⟨hP, hD⟩ := va_join (wr := []) (w1 := [(a1, .inr (17, [.int 0, .ref a2, .ref a3, .ref a4, .long 0])), (a2, .inl (T 2, 12, .inr (.inr (.inr (.inr (fun _ => none))))))]) hP hD [0, 1] [] rfl rfl (by decide) (by decide) hk1 hFc hP1 hD1
  have hP : va_P (dC, dI) vwCl [(a1, .inr (17, [.int 0, .ref a2, .ref a3, .ref a4, .long 0])), (a2, .inl (T 2, 12, .inr (.inr (.inr (.inr (fun _ => none))))))] H := hP
  have hD : va_D A [(a1, .inr (17, [.int 0, .ref a2, .ref a3, .ref a4, .long 0])), (a2, .inl (T 2, 12, .inr (.inr (.inr (.inr (fun _ => none))))))] := hD
  clear hPc hDc hFc hP1 hD1 hk1 hz1 ht hvm
  have hP9 := hP.sub (ws' := [(a1, .inr (17, [.int 0, .ref a2, .ref a3, .ref a4, .long 0]))]) [0] rfl
  have hD9 := hD.sub (ws' := [(a1, .inr (17, [.int 0, .ref a2, .ref a3, .ref a4, .long 0]))]) [0] (by decide) rfl
  exact W.iret (v := 0) hx hb hr (fun t ht hW => ⟨⟨_, _, rfl, rfl, ⟨rfl, by rw [ht]; exact hP9, hD9⟩⟩, hS.F ht⟩) hS.2.2 dX12_countPoints_9
set_option maxHeartbeats 4000000 in
set_option maxRecDepth 100000 in
theorem xcX12_countSeen (l : Launch) (hst : l.stackTraces = false) (dC : Nat → ClassId) (dI : Nat → Nat → Nat) (T : Nat → ClassId) (a1 : Nat) (a2 : Nat) (a3 : Nat) (a4 : Nat) (sz : Nat) (p1 : Int32) : Met l yX12_countSeen wsX12_countSeen ({ frames := 3, cells := 0, slots := 0, locals := 67 } : Room) (va_Pc [.ref a1, .int p1] (fun U => xB dC dI T [(a1, .inr (17, [.int 0, .ref a2, .ref a3, .ref a4, .long 0])), (a2, .inl (T 2, 12, .inr (.inr (.inr (.inr (fun _ => none))))))] sz U)) (va_Qi (fun (r u : Int32) => r = u) (fun (u : Int32) (t : State) => 0 = u ∧ xE dC dI [(a1, .inr (17, [.int 1, .ref a2, .ref a3, .ref a4, .long 0]))] (va_A [(a1, .inr (17, [.int 0, .ref a2, .ref a3, .ref a4, .long 0])), (a2, .inl (T 2, 12, .inr (.inr (.inr (.inr (fun _ => none))))))] sz) t) (va_A [(a1, .inr (17, [.int 0, .ref a2, .ref a3, .ref a4, .long 0])), (a2, .inl (T 2, 12, .inr (.inr (.inr (.inr (fun _ => none))))))] sz)) 0 0 (va_A [(a1, .inr (17, [.int 0, .ref a2, .ref a3, .ref a4, .long 0])), (a2, .inl (T 2, 12, .inr (.inr (.inr (.inr (fun _ => none))))))] sz) := by
  refine Met.ofW (cc := cX12_countSeen) (maxL := 2) (ret := (some .int)) (by decide +kernel) rfl ?_
  intro p e s m args below meth c s₁ B hml hv
  obtain ⟨rfl, hsz, hP, hK, hD0, hG⟩ := hv
  have hx := B.exec
  have hb := B.bytes
  have hr := B.returns
  have hts := atoms_spec (ws := wsX12_countSeen) B.pre
  have hown : s.vm.findClass RX12 = some m.cls := findClass_of_methodNamed B.named
  have hlocks := B.notSynchronized
  subst hsz
  have hD := hD0.self (sz := s.heap.size)
  generalize hAe : va_A [(a1, .inr (17, [.int 0, .ref a2, .ref a3, .ref a4, .long 0])), (a2, .inl (T 2, 12, .inr (.inr (.inr (.inr (fun _ => none))))))] s.heap.size = A at hD hG ⊢
  have hA : ∀ q : Nat, s.heap.size ≤ q → A q := fun q h => by rw [← hAe]; exact Or.inr h
  have hS : va_S A s.heap s.heap [] := va_S.rf
  have hl := lv_entry ([.ref a1, .int p1]) (n := 2) (Nat.le_of_ble_eq_true rfl)
  rw [lg_entry_eq]
  generalize (lg_sl ([.ref a1, .int p1]) ++ List.replicate (2 - (lg_sl ([.ref a1, .int p1])).length) Slot.unset).toArray = ls at hl ⊢
  have hl : lv_has ls 2 [(0, .ref a1), (1, .int p1)] := hl
  refine lv_aload_n hx hb dX12_countSeen_0 rfl (lv_at hl 0 rfl) ?_
  refine lv_iload_n hx hb dX12_countSeen_1 rfl (lv_at hl 1 rfl) ?_
  have hPc := hP.sub (ws' := [(a1, .inr (17, [.int 0, .ref a2, .ref a3, .ref a4, .long 0])), (a2, .inl (T 2, 12, .inr (.inr (.inr (.inr (fun _ => none))))))]) [0, 1] rfl
  have hDc := hD.sub (ws' := [(a1, .inr (17, [.int 0, .ref a2, .ref a3, .ref a4, .long 0])), (a2, .inl (T 2, 12, .inr (.inr (.inr (.inr (fun _ => none))))))]) [0, 1] (by decide) rfl
  have hFc := va_free (wc := [(a1, .inr (17, [.int 0, .ref a2, .ref a3, .ref a4, .long 0])), (a2, .inl (T 2, 12, .inr (.inr (.inr (.inr (fun _ => none))))))]) hD hS hA [0, 1] rfl
  refine va_calli (va_runV (As := [.int p1]) (rest := []) ⟨hx, hb, hml, hown, hts⟩ (xcX12_isNoPoint l hst dC dI T a1 a2 a3 a4 s.heap.size p1) (cwV 1 hts gX12_countSeen_X12_isNoPoint rfl rfl rfl (by decide +kernel) ⟨Nat.le_of_ble_eq_true rfl, Nat.le_of_ble_eq_true rfl⟩) ⟨xBlind, va_recv hK hPc (ci := 17) (q0 := 0) rfl rfl, xCall hK hG hS hPc hDc hFc⟩ rfl rfl hl.1 rfl (lv_room (Nat.le_of_ble_eq_true rfl)) dX12_countSeen_2 ⟨Nat.le_of_ble_eq_true rfl, Nat.le_of_ble_eq_true rfl⟩) hS (fun q _ h => hFc q h) hFc (fun r_9 u t H locs ht hvm hw hB hz1 hk1 hS => ?_)
  subst hw
  rcases hB with ⟨hr_9, hP1, hD1⟩
  rw [ht] at hP1
  subst hr_9
  obtain ⟨hP, hD⟩ := va_join (wr := []) (w1 := [(a1, .inr (17, [.int 1, .ref a2, .ref a3, .ref a4, .long 0])), (a2, .inl (T 2, 12, .inr (.inr (.inr (.inr (fun _ => none))))))]) hP hD [0, 1] [] rfl rfl (by decide) (by decide) hk1 hFc hP1 hD1
  have hP : va_P (dC, dI) vwCl [(a1, .inr (17, [.int 1, .ref a2, .ref a3, .ref a4, .long 0])), (a2, .inl (T 2, 12, .inr (.inr (.inr (.inr (fun _ => none))))))] H := hP
  have hD : va_D A [(a1, .inr (17, [.int 1, .ref a2, .ref a3, .ref a4, .long 0])), (a2, .inl (T 2, 12, .inr (.inr (.inr (.inr (fun _ => none))))))] := hD
  clear hPc hDc hFc hP1 hD1 hk1 hz1 ht hvm
  refine lv_if_eq (tgt := 12) hx hb dX12_countSeen_5 (by decide) (fun c_2 => absurd c_2 (by decide)) (fun c_2 => ?_)
  refine lv_iconst (v := 0) hx hb dX12_countSeen_8 (by decide) ?_
  refine lv_goto (tgt := 22) hx hb dX12_countSeen_9 (by decide) ?_
  have hP9 := hP.sub (ws' := [(a1, .inr (17, [.int 1, .ref a2, .ref a3, .ref a4, .long 0]))]) [0] rfl
  have hD9 := hD.sub (ws' := [(a1, .inr (17, [.int 1, .ref a2, .ref a3, .ref a4, .long 0]))]) [0] (by decide) rfl
  exact W.iret (v := 0) hx hb hr (fun t ht hW => ⟨⟨_, _, rfl, rfl, ⟨rfl, by rw [ht]; exact hP9, hD9⟩⟩, hS.F ht⟩) hS.2.2 dX12_countSeen_22
set_option maxHeartbeats 4000000 in
set_option maxRecDepth 100000 in
theorem xcX12_depth (l : Launch) (hst : l.stackTraces = false) (dC : Nat → ClassId) (dI : Nat → Nat → Nat) (T : Nat → ClassId) (a1 : Nat) (a2 : Nat) (a3 : Nat) (a4 : Nat) (sz : Nat) (p1 : Int32) : Met l yX12_depth wsX12_depth ({ frames := 3, cells := 0, slots := 0, locals := 67 } : Room) (va_Pc [.ref a1, .int p1] (fun U => xB dC dI T [(a1, .inr (17, [.int 0, .ref a2, .ref a3, .ref a4, .long 0])), (a2, .inl (T 2, 12, .inr (.inr (.inr (.inr (fun _ => none))))))] sz U)) (va_Qi (fun (r u : Int32) => r = u) (fun (u : Int32) (t : State) => 0 = u ∧ xE dC dI [(a1, .inr (17, [.int 1, .ref a2, .ref a3, .ref a4, .long 0]))] (va_A [(a1, .inr (17, [.int 0, .ref a2, .ref a3, .ref a4, .long 0])), (a2, .inl (T 2, 12, .inr (.inr (.inr (.inr (fun _ => none))))))] sz) t) (va_A [(a1, .inr (17, [.int 0, .ref a2, .ref a3, .ref a4, .long 0])), (a2, .inl (T 2, 12, .inr (.inr (.inr (.inr (fun _ => none))))))] sz)) 0 0 (va_A [(a1, .inr (17, [.int 0, .ref a2, .ref a3, .ref a4, .long 0])), (a2, .inl (T 2, 12, .inr (.inr (.inr (.inr (fun _ => none))))))] sz) := by
  refine Met.ofW (cc := cX12_depth) (maxL := 12) (ret := (some .int)) (by decide +kernel) rfl ?_
  intro p e s m args below meth c s₁ B hml hv
  obtain ⟨rfl, hsz, hP, hK, hD0, hG⟩ := hv
  have hx := B.exec
  have hb := B.bytes
  have hr := B.returns
  have hts := atoms_spec (ws := wsX12_depth) B.pre
  have hown : s.vm.findClass RX12 = some m.cls := findClass_of_methodNamed B.named
  have hlocks := B.notSynchronized
  subst hsz
  have hD := hD0.self (sz := s.heap.size)
  generalize hAe : va_A [(a1, .inr (17, [.int 0, .ref a2, .ref a3, .ref a4, .long 0])), (a2, .inl (T 2, 12, .inr (.inr (.inr (.inr (fun _ => none))))))] s.heap.size = A at hD hG ⊢
  have hA : ∀ q : Nat, s.heap.size ≤ q → A q := fun q h => by rw [← hAe]; exact Or.inr h
  have hS : va_S A s.heap s.heap [] := va_S.rf
  have hl := lv_entry ([.ref a1, .int p1]) (n := 12) (Nat.le_of_ble_eq_true rfl)
  rw [lg_entry_eq]
  generalize (lg_sl ([.ref a1, .int p1]) ++ List.replicate (12 - (lg_sl ([.ref a1, .int p1])).length) Slot.unset).toArray = ls at hl ⊢
  have hl : lv_has ls 12 [(0, .ref a1), (1, .int p1)] := hl
  refine lv_aload_n hx hb dX12_depth_0 rfl (lv_at hl 0 rfl) ?_
  refine lv_iload_n hx hb dX12_depth_1 rfl (lv_at hl 1 rfl) ?_
  have hPc := hP.sub (ws' := [(a1, .inr (17, [.int 0, .ref a2, .ref a3, .ref a4, .long 0])), (a2, .inl (T 2, 12, .inr (.inr (.inr (.inr (fun _ => none))))))]) [0, 1] rfl
  have hDc := hD.sub (ws' := [(a1, .inr (17, [.int 0, .ref a2, .ref a3, .ref a4, .long 0])), (a2, .inl (T 2, 12, .inr (.inr (.inr (.inr (fun _ => none))))))]) [0, 1] (by decide) rfl
  have hFc := va_free (wc := [(a1, .inr (17, [.int 0, .ref a2, .ref a3, .ref a4, .long 0])), (a2, .inl (T 2, 12, .inr (.inr (.inr (.inr (fun _ => none))))))]) hD hS hA [0, 1] rfl
  refine va_calli (va_runV (As := [.int p1]) (rest := []) ⟨hx, hb, hml, hown, hts⟩ (xcX12_isNoPoint l hst dC dI T a1 a2 a3 a4 s.heap.size p1) (cwV 1 hts gX12_depth_X12_isNoPoint rfl rfl rfl (by decide +kernel) ⟨Nat.le_of_ble_eq_true rfl, Nat.le_of_ble_eq_true rfl⟩) ⟨xBlind, va_recv hK hPc (ci := 17) (q0 := 0) rfl rfl, xCall hK hG hS hPc hDc hFc⟩ rfl rfl hl.1 rfl (lv_room (Nat.le_of_ble_eq_true rfl)) dX12_depth_2 ⟨Nat.le_of_ble_eq_true rfl, Nat.le_of_ble_eq_true rfl⟩) hS (fun q _ h => hFc q h) hFc (fun r_9 u t H locs ht hvm hw hB hz1 hk1 hS => ?_)
  subst hw
  rcases hB with ⟨hr_9, hP1, hD1⟩
  rw [ht] at hP1
  subst hr_9
  obtain ⟨hP, hD⟩ := va_join (wr := []) (w1 := [(a1, .inr (17, [.int 1, .ref a2, .ref a3, .ref a4, .long 0])), (a2, .inl (T 2, 12, .inr (.inr (.inr (.inr (fun _ => none))))))]) hP hD [0, 1] [] rfl rfl (by decide) (by decide) hk1 hFc hP1 hD1
  have hP : va_P (dC, dI) vwCl [(a1, .inr (17, [.int 1, .ref a2, .ref a3, .ref a4, .long 0])), (a2, .inl (T 2, 12, .inr (.inr (.inr (.inr (fun _ => none))))))] H := hP
  have hD : va_D A [(a1, .inr (17, [.int 1, .ref a2, .ref a3, .ref a4, .long 0])), (a2, .inl (T 2, 12, .inr (.inr (.inr (.inr (fun _ => none))))))] := hD
  clear hPc hDc hFc hP1 hD1 hk1 hz1 ht hvm
  refine lv_if_eq (tgt := 10) hx hb dX12_depth_5 (by decide) (fun c_2 => absurd c_2 (by decide)) (fun c_2 => ?_)
  refine lv_iconst (v := 0) hx hb dX12_depth_8 (by decide) ?_
  have hP9 := hP.sub (ws' := [(a1, .inr (17, [.int 1, .ref a2, .ref a3, .ref a4, .long 0]))]) [0] rfl
  have hD9 := hD.sub (ws' := [(a1, .inr (17, [.int 1, .ref a2, .ref a3, .ref a4, .long 0]))]) [0] (by decide) rfl
  exact W.iret (v := 0) hx hb hr (fun t ht hW => ⟨⟨_, _, rfl, rfl, ⟨rfl, by rw [ht]; exact hP9, hD9⟩⟩, hS.F ht⟩) hS.2.2 dX12_depth_9
set_option maxHeartbeats 4000000 in
set_option maxRecDepth 100000 in
theorem xcJx4a65c_isEmpty_aae02 (l : Launch) (hst : l.stackTraces = false) (dC : Nat → ClassId) (dI : Nat → Nat → Nat) (T : Nat → ClassId) (a1 : Nat) (sz : Nat) : Met l yJx4a65c_isEmpty_aae02 wsJx4a65c_isEmpty_aae02 ({ frames := 0, cells := 0, slots := 0, locals := 0 } : Room) (va_Pc [.ref a1] (fun U => xB dC dI T [(a1, .inr (4, [.int 0, .ref (dI 1000 0), .int 0]))] sz U)) (va_Qi (fun (r u : Int32) => r = u) (fun (u : Int32) (t : State) => 1 = u ∧ xE dC dI [(a1, .inr (4, [.int 0, .ref (dI 1000 0), .int 0]))] (va_A [(a1, .inr (4, [.int 0, .ref (dI 1000 0), .int 0]))] sz) t) (va_A [(a1, .inr (4, [.int 0, .ref (dI 1000 0), .int 0]))] sz)) 0 0 (va_A [(a1, .inr (4, [.int 0, .ref (dI 1000 0), .int 0]))] sz) := by
  refine Met.ofW (cc := cJx4a65c_isEmpty_aae02) (maxL := 1) (ret := (some .boolean)) (by decide +kernel) rfl ?_
  intro p e s m args below meth c s₁ B hml hv
  obtain ⟨rfl, hsz, hP, hK, hD0, hG⟩ := hv
  have hx := B.exec
  have hb := B.bytes
  have hr := B.returns
  have hts := atoms_spec (ws := wsJx4a65c_isEmpty_aae02) B.pre
  have hown : s.vm.findClass RJx4a65c = some m.cls := findClass_of_methodNamed B.named
  have hlocks := B.notSynchronized
  have hin_Jx4a65c : ∀ w ∈ wsJx4a65c0, w ∈ wsJx4a65c_isEmpty_aae02 := by decide +kernel
  subst hsz
  have hD := hD0.self (sz := s.heap.size)
  generalize hAe : va_A [(a1, .inr (4, [.int 0, .ref (dI 1000 0), .int 0]))] s.heap.size = A at hD hG ⊢
  have hA : ∀ q : Nat, s.heap.size ≤ q → A q := fun q h => by rw [← hAe]; exact Or.inr h
  have hS : va_S A s.heap s.heap [] := va_S.rf
  have hl := lv_entry ([.ref a1]) (n := 1) (Nat.le_of_ble_eq_true rfl)
  rw [lg_entry_eq]
  generalize (lg_sl ([.ref a1]) ++ List.replicate (1 - (lg_sl ([.ref a1])).length) Slot.unset).toArray = ls at hl ⊢
  have hl : lv_has ls 1 [(0, .ref a1)] := hl
  refine lv_aload_n hx hb dJx4a65c_isEmpty_aae02_0 rfl (lv_at hl 0 rfl) ?_
  refine va_get (D := (dC, dI)) (ci := 4) (v := .int 0) (C := RJx4a65c) (T := TJx4a65c) (N := 3) hx hb hts hin_Jx4a65c hown hK hP 0 rfl rfl 2 (by decide) (hts (.fieldLink RJx4a65c 48 "java/util/ArrayList" "size" "I") (by decide +kernel)) (fun _ h9 => h9) rfl dJx4a65c_isEmpty_aae02_1 ?_
  refine lv_if_ne (tgt := 11) hx hb dJx4a65c_isEmpty_aae02_4 (by decide) (fun c_1 => absurd c_1 (by decide)) (fun c_1 => ?_)
  refine lv_iconst (v := 1) hx hb dJx4a65c_isEmpty_aae02_7 (by decide) ?_
  refine lv_goto (tgt := 12) hx hb dJx4a65c_isEmpty_aae02_8 (by decide) ?_
  have hP9 := hP.sub (ws' := [(a1, .inr (4, [.int 0, .ref (dI 1000 0), .int 0]))]) [0] rfl
  have hD9 := hD.sub (ws' := [(a1, .inr (4, [.int 0, .ref (dI 1000 0), .int 0]))]) [0] (by decide) rfl
  exact W.zret (v := 1) hx hb hr (by decide) (fun t ht hW => ⟨⟨_, _, rfl, rfl, ⟨rfl, by rw [ht]; exact hP9, hD9⟩⟩, hS.F ht⟩) hS.2.2 dJx4a65c_isEmpty_aae02_12
set_option maxHeartbeats 4000000 in
set_option maxRecDepth 100000 in
theorem xcX12_dropWall (l : Launch) (hst : l.stackTraces = false) (dC : Nat → ClassId) (dI : Nat → Nat → Nat) (T : Nat → ClassId) (a1 : Nat) (a2 : Nat) (a3 : Nat) (a4 : Nat) (sz : Nat) : Met l yX12_dropWall wsX12_dropWall ({ frames := 1, cells := 0, slots := 0, locals := 21 } : Room) (va_Pc [.ref a1] (fun U => xB dC dI T [(a1, .inr (17, [.int 0, .ref a2, .ref a3, .ref a4, .long 0])), (a4, .inr (4, [.int 0, .ref (dI 1000 0), .int 0]))] sz U)) (va_Qi (fun (r u : Int32) => r = u) (fun (u : Int32) (t : State) => 0 = u ∧ xE dC dI [(a1, .inr (17, [.int 1, .ref a2, .ref a3, .ref a4, .long 0]))] (va_A [(a1, .inr (17, [.int 0, .ref a2, .ref a3, .ref a4, .long 0])), (a4, .inr (4, [.int 0, .ref (dI 1000 0), .int 0]))] sz) t) (va_A [(a1, .inr (17, [.int 0, .ref a2, .ref a3, .ref a4, .long 0])), (a4, .inr (4, [.int 0, .ref (dI 1000 0), .int 0]))] sz)) 0 0 (va_A [(a1, .inr (17, [.int 0, .ref a2, .ref a3, .ref a4, .long 0])), (a4, .inr (4, [.int 0, .ref (dI 1000 0), .int 0]))] sz) := by
  refine Met.ofW (cc := cX12_dropWall) (maxL := 1) (ret := (some .int)) (by decide +kernel) rfl ?_
  intro p e s m args below meth c s₁ B hml hv
  obtain ⟨rfl, hsz, hP, hK, hD0, hG⟩ := hv
  have hx := B.exec
  have hb := B.bytes
  have hr := B.returns
  have hts := atoms_spec (ws := wsX12_dropWall) B.pre
  have hown : s.vm.findClass RX12 = some m.cls := findClass_of_methodNamed B.named
  have hlocks := B.notSynchronized
  have hin_X12 : ∀ w ∈ wsX120, w ∈ wsX12_dropWall := by decide +kernel
  subst hsz
  have hD := hD0.self (sz := s.heap.size)
  generalize hAe : va_A [(a1, .inr (17, [.int 0, .ref a2, .ref a3, .ref a4, .long 0])), (a4, .inr (4, [.int 0, .ref (dI 1000 0), .int 0]))] s.heap.size = A at hD hG ⊢
  have hA : ∀ q : Nat, s.heap.size ≤ q → A q := fun q h => by rw [← hAe]; exact Or.inr h
  have hS : va_S A s.heap s.heap [] := va_S.rf
  have hl := lv_entry ([.ref a1]) (n := 1) (Nat.le_of_ble_eq_true rfl)
  rw [lg_entry_eq]
  generalize (lg_sl ([.ref a1]) ++ List.replicate (1 - (lg_sl ([.ref a1])).length) Slot.unset).toArray = ls at hl ⊢
  have hl : lv_has ls 1 [(0, .ref a1)] := hl
  refine lv_aload_n hx hb dX12_dropWall_0 rfl (lv_at hl 0 rfl) ?_
  refine lv_aload_n hx hb dX12_dropWall_1 rfl (lv_at hl 0 rfl) ?_
  refine va_get (D := (dC, dI)) (ci := 17) (v := .ref a4) (C := RX12) (T := TX12) (N := 5) hx hb hts hin_X12 hown hK hP 0 rfl rfl 3 (by decide) (hts (.fieldLink RX12 22 "NearestwardModel" "walls" "Ljava/util/List;") (by decide +kernel)) (fun _ h9 => h9) rfl dX12_dropWall_2 ?_
  have hPc := hP.sub (ws' := [(a4, .inr (4, [.int 0, .ref (dI 1000 0), .int 0]))]) [1] rfl
  have hDc := hD.sub (ws' := [(a4, .inr (4, [.int 0, .ref (dI 1000 0), .int 0]))]) [1] (by decide) rfl
  have hFc := va_free (wc := [(a4, .inr (4, [.int 0, .ref (dI 1000 0), .int 0]))]) hD hS hA [1] rfl
  refine va_callFi (va_runF (As := []) (rest := [.ref a1]) (hK.1 4 _ rfl).2 ⟨hx, hb, hml, hown, hts⟩ (xcJx4a65c_isEmpty_aae02 l hst dC dI T a4 s.heap.size) (va_cwF 0 hts gX12_dropWall_Jx4a65c_isEmpty_aae02_f87Jx4a65c rfl rfl rfl (hG.2.2.2.2.2.2.1 ((⟨"java/util/List", "isEmpty", "()Z"⟩ : MethodName), yJx4a65c_isEmpty_aae02) (List.mem_of_getElem? (i := 2) rfl)) (by decide +kernel) ⟨Nat.le_of_ble_eq_true rfl, Nat.le_of_ble_eq_true rfl⟩) ⟨xBlind, va_recv hK hPc (ci := 4) (q0 := 0) rfl rfl, xCall hK hG hS hPc hDc hFc⟩ rfl rfl hl.1 rfl (lv_room (Nat.le_of_ble_eq_true rfl)) dX12_dropWall_5 ⟨Nat.le_of_ble_eq_true rfl, Nat.le_of_ble_eq_true rfl⟩) hS (fun q _ h => hFc q h) hFc (fun r_9 u t H locs ht hvm hw hB hz1 hk1 hS => ?_)
  subst hw
  rcases hB with ⟨hr_9, hP1, hD1⟩
  rw [ht] at hP1
  subst hr_9
  obtain ⟨hP, hD⟩ := va_join (wr := [(a1, .inr (17, [.int 0, .ref a2, .ref a3, .ref a4, .long 0]))]) (w1 := [(a4, .inr (4, [.int 0, .ref (dI 1000 0), .int 0]))]) hP hD [1] [0] rfl rfl (by decide) (by decide) hk1 hFc hP1 hD1
  have hP : va_P (dC, dI) vwCl [(a1, .inr (17, [.int 0, .ref a2, .ref a3, .ref a4, .long 0])), (a4, .inr (4, [.int 0, .ref (dI 1000 0), .int 0]))] H := hP
  have hD : va_D A [(a1, .inr (17, [.int 0, .ref a2, .ref a3, .ref a4, .long 0])), (a4, .inr (4, [.int 0, .ref (dI 1000 0), .int 0]))] := hD
  clear hPc hDc hFc hP1 hD1 hk1 hz1 ht hvm
  refine lv_if_eq (tgt := 17) hx hb dX12_dropWall_10 (by decide) (fun c_2 => absurd c_2 (by decide)) (fun c_2 => ?_)
  refine lv_iconst (v := 1) hx hb dX12_dropWall_13 (by decide) ?_
  refine lv_goto (tgt := 18) hx hb dX12_dropWall_14 (by decide) ?_
  have hPc := hP.sub (ws' := [(a1, .inr (17, [.int 0, .ref a2, .ref a3, .ref a4, .long 0]))]) [0] rfl
  have hDc := hD.sub (ws' := [(a1, .inr (17, [.int 0, .ref a2, .ref a3, .ref a4, .long 0]))]) [0] (by decide) rfl
  have hFc := va_free (wc := [(a1, .inr (17, [.int 0, .ref a2, .ref a3, .ref a4, .long 0]))]) hD hS hA [0] rfl
  refine va_calli (va_runV (As := [.int 1]) (rest := []) ⟨hx, hb, hml, hown, hts⟩ (xcX12_isWrong l hst dC dI T a1 a2 a3 a4 H.size) (cwV 1 hts gX12_dropWall_X12_isWrong rfl rfl rfl (by decide +kernel) ⟨Nat.le_of_ble_eq_true rfl, Nat.le_of_ble_eq_true rfl⟩) ⟨xBlind, va_recv hK hPc (ci := 17) (q0 := 0) rfl rfl, xCall hK hG hS hPc hDc hFc⟩ rfl rfl hl.1 rfl (lv_room (Nat.le_of_ble_eq_true rfl)) dX12_dropWall_18 ⟨Nat.le_of_ble_eq_true rfl, Nat.le_of_ble_eq_true rfl⟩) hS (fun q _ h => hFc q h) hFc (fun r_9 u t H locs ht hvm hw hB hz1 hk1 hS => ?_)
  subst hw
  rcases hB with ⟨hr_9, hP1, hD1⟩
  rw [ht] at hP1
  subst hr_9
  obtain ⟨hP, hD⟩ := va_join (wr := [(a4, .inr (4, [.int 0, .ref (dI 1000 0), .int 0]))]) (w1 := [(a1, .inr (17, [.int 1, .ref a2, .ref a3, .ref a4, .long 0]))]) hP hD [0] [1] rfl rfl (by decide) (by decide) hk1 hFc hP1 hD1
  have hP := hP.sub (ws' := [(a1, .inr (17, [.int 1, .ref a2, .ref a3, .ref a4, .long 0])), (a4, .inr (4, [.int 0, .ref (dI 1000 0), .int 0]))]) [1, 0] rfl
  have hD := hD.sub (ws' := [(a1, .inr (17, [.int 1, .ref a2, .ref a3, .ref a4, .long 0])), (a4, .inr (4, [.int 0, .ref (dI 1000 0), .int 0]))]) [1, 0] (by decide) rfl
  clear hPc hDc hFc hP1 hD1 hk1 hz1 ht hvm
  refine lv_if_eq (tgt := 26) hx hb dX12_dropWall_21 (by decide) (fun c_4 => absurd c_4 (by decide)) (fun c_4 => ?_)
  refine lv_iconst (v := 0) hx hb dX12_dropWall_24 (by decide) ?_
  have hP9 := hP.sub (ws' := [(a1, .inr (17, [.int 1, .ref a2, .ref a3, .ref a4, .long 0]))]) [0] rfl
  have hD9 := hD.sub (ws' := [(a1, .inr (17, [.int 1, .ref a2, .ref a3, .ref a4, .long 0]))]) [0] (by decide) rfl
  exact W.iret (v := 0) hx hb hr (fun t ht hW => ⟨⟨_, _, rfl, rfl, ⟨rfl, by rw [ht]; exact hP9, hD9⟩⟩, hS.F ht⟩) hS.2.2 dX12_dropWall_25
set_option maxHeartbeats 4000000 in
set_option maxRecDepth 100000 in
theorem xcX12_isKind (l : Launch) (hst : l.stackTraces = false) (dC : Nat → ClassId) (dI : Nat → Nat → Nat) (T : Nat → ClassId) (sz : Nat) (p0 : Int32) : Met l yX12_isKind wsX12_isKind ({ frames := 0, cells := 0, slots := 0, locals := 0 } : Room) (va_Pc [.int p0] (fun U => xB dC dI T [] sz U)) (va_Qi (fun (r u : Int32) => r = u) (fun (u : Int32) (t : State) => (((p0.toInt = 101) ∨ ((¬ (p0.toInt = 101)) ∧ (p0.toInt = 115)) ∨ ((¬ (p0.toInt = 101)) ∧ (¬ (p0.toInt = 115)) ∧ (p0.toInt = 109)) ∨ ((¬ (p0.toInt = 101)) ∧ (¬ (p0.toInt = 115)) ∧ (¬ (p0.toInt = 109)) ∧ (p0.toInt = 112))) ∧ 1 = u ∧ xE dC dI [] (va_A [] sz) t) ∨ (((¬ (p0.toInt = 101)) ∧ (¬ (p0.toInt = 115)) ∧ (¬ (p0.toInt = 109)) ∧ (¬ (p0.toInt = 112))) ∧ 0 = u ∧ xE dC dI [] (va_A [] sz) t)) (va_A [] sz)) 0 0 (va_A [] sz) := by
  refine Met.ofW (cc := cX12_isKind) (maxL := 1) (ret := (some .boolean)) (by decide +kernel) rfl ?_
  intro p e s m args below meth c s₁ B hml hv
  obtain ⟨rfl, hsz, hP, hK, hD0, hG⟩ := hv
  have hx := B.exec
  have hb := B.bytes
  have hr := B.returns
  have hts := atoms_spec (ws := wsX12_isKind) B.pre
  have hown : s.vm.findClass RX12 = some m.cls := findClass_of_methodNamed B.named
  have hlocks := B.notSynchronized
  subst hsz
  have hD := hD0.self (sz := s.heap.size)
  generalize hAe : va_A [] s.heap.size = A at hD hG ⊢
  have hA : ∀ q : Nat, s.heap.size ≤ q → A q := fun q h => by rw [← hAe]; exact Or.inr h
  have hS : va_S A s.heap s.heap [] := va_S.rf
  have hl := lv_entry ([.int p0]) (n := 1) (Nat.le_of_ble_eq_true rfl)
  rw [lg_entry_eq]
  generalize (lg_sl ([.int p0]) ++ List.replicate (1 - (lg_sl ([.int p0])).length) Slot.unset).toArray = ls at hl ⊢
  have hl : lv_has ls 1 [(0, .int p0)] := hl
  refine lv_iload_n hx hb dX12_isKind_0 rfl (lv_at hl 0 rfl) ?_
  refine lv_bipush (v := 101) hx hb dX12_isKind_1 (by decide) ?_
  refine lv_icmp_eq (tgt := 24) hx hb dX12_isKind_3 (by decide) (fun c_1 => ?_) (fun c_1 => ?_)
  · have nc_1 : p0.toInt = 101 := (xi_eq rfl (by decide +kernel)).mp c_1
    refine lv_iconst (v := 1) hx hb dX12_isKind_24 (by decide) ?_
    refine lv_goto (tgt := 29) hx hb dX12_isKind_25 (by decide) ?_
    have hP9 := hP.sub (ws' := []) [] rfl
    have hD9 := hD.sub (ws' := []) [] (by decide) rfl
    exact W.zret (v := 1) hx hb hr (by decide) (fun t ht hW => ⟨⟨_, _, rfl, rfl, (Or.inl ⟨(Or.inl nc_1), rfl, by rw [ht]; exact hP9, hD9⟩)⟩, hS.F ht⟩) hS.2.2 dX12_isKind_29
  · have nc_1 : ¬ (p0.toInt = 101) := mt (xi_eq rfl (by decide +kernel)).mpr c_1
    refine lv_iload_n hx hb dX12_isKind_6 rfl (lv_at hl 0 rfl) ?_
    refine lv_bipush (v := 115) hx hb dX12_isKind_7 (by decide) ?_
    refine lv_icmp_eq (tgt := 24) hx hb dX12_isKind_9 (by decide) (fun c_2 => ?_) (fun c_2 => ?_)
    · have nc_2 : p0.toInt = 115 := (xi_eq rfl (by decide +kernel)).mp c_2
      refine lv_iconst (v := 1) hx hb dX12_isKind_24 (by decide) ?_
      refine lv_goto (tgt := 29) hx hb dX12_isKind_25 (by decide) ?_
      have hP9 := hP.sub (ws' := []) [] rfl
      have hD9 := hD.sub (ws' := []) [] (by decide) rfl
      exact W.zret (v := 1) hx hb hr (by decide) (fun t ht hW => ⟨⟨_, _, rfl, rfl, (Or.inl ⟨(Or.inr (Or.inl ⟨nc_1, nc_2⟩)), rfl, by rw [ht]; exact hP9, hD9⟩)⟩, hS.F ht⟩) hS.2.2 dX12_isKind_29
    · have nc_2 : ¬ (p0.toInt = 115) := mt (xi_eq rfl (by decide +kernel)).mpr c_2
      refine lv_iload_n hx hb dX12_isKind_12 rfl (lv_at hl 0 rfl) ?_
      refine lv_bipush (v := 109) hx hb dX12_isKind_13 (by decide) ?_
      refine lv_icmp_eq (tgt := 24) hx hb dX12_isKind_15 (by decide) (fun c_3 => ?_) (fun c_3 => ?_)
      · have nc_3 : p0.toInt = 109 := (xi_eq rfl (by decide +kernel)).mp c_3
        refine lv_iconst (v := 1) hx hb dX12_isKind_24 (by decide) ?_
        refine lv_goto (tgt := 29) hx hb dX12_isKind_25 (by decide) ?_
        have hP9 := hP.sub (ws' := []) [] rfl
        have hD9 := hD.sub (ws' := []) [] (by decide) rfl
        exact W.zret (v := 1) hx hb hr (by decide) (fun t ht hW => ⟨⟨_, _, rfl, rfl, (Or.inl ⟨(Or.inr (Or.inr (Or.inl ⟨nc_1, nc_2, nc_3⟩))), rfl, by rw [ht]; exact hP9, hD9⟩)⟩, hS.F ht⟩) hS.2.2 dX12_isKind_29
      · have nc_3 : ¬ (p0.toInt = 109) := mt (xi_eq rfl (by decide +kernel)).mpr c_3
        refine lv_iload_n hx hb dX12_isKind_18 rfl (lv_at hl 0 rfl) ?_
        refine lv_bipush (v := 112) hx hb dX12_isKind_19 (by decide) ?_
        refine lv_icmp_ne (tgt := 28) hx hb dX12_isKind_21 (by decide) (fun c_4 => ?_) (fun c_4 => ?_)
        · have nc_4 : ¬ (p0.toInt = 112) := mt (xi_eq rfl (by decide +kernel)).mpr c_4
          refine lv_iconst (v := 0) hx hb dX12_isKind_28 (by decide) ?_
          have hP9 := hP.sub (ws' := []) [] rfl
          have hD9 := hD.sub (ws' := []) [] (by decide) rfl
          exact W.zret (v := 0) hx hb hr (by decide) (fun t ht hW => ⟨⟨_, _, rfl, rfl, (Or.inr (⟨⟨nc_1, nc_2, nc_3, nc_4⟩, rfl, by rw [ht]; exact hP9, hD9⟩))⟩, hS.F ht⟩) hS.2.2 dX12_isKind_29
        · have nc_4 : p0.toInt = 112 := (xi_eq rfl (by decide +kernel)).mp c_4
          refine lv_iconst (v := 1) hx hb dX12_isKind_24 (by decide) ?_
          refine lv_goto (tgt := 29) hx hb dX12_isKind_25 (by decide) ?_
          have hP9 := hP.sub (ws' := []) [] rfl
          have hD9 := hD.sub (ws' := []) [] (by decide) rfl
          exact W.zret (v := 1) hx hb hr (by decide) (fun t ht hW => ⟨⟨_, _, rfl, rfl, (Or.inl ⟨(Or.inr (Or.inr (Or.inr (⟨nc_1, nc_2, nc_3, nc_4⟩)))), rfl, by rw [ht]; exact hP9, hD9⟩)⟩, hS.F ht⟩) hS.2.2 dX12_isKind_29
set_option maxHeartbeats 4000000 in
set_option maxRecDepth 100000 in
theorem xcX12_isBetween_v5 (l : Launch) (hst : l.stackTraces = false) (dC : Nat → ClassId) (dI : Nat → Nat → Nat) (T : Nat → ClassId) (sz : Nat) (p0 : Int64) : Met l yX12_isBetween wsX12_isBetween ({ frames := 0, cells := 0, slots := 0, locals := 0 } : Room) (va_Pc [.long p0, .long (-999), .long 999] (fun U => xB dC dI T [] sz U)) (va_Qi (fun (r u : Int32) => r = u) (fun (u : Int32) (t : State) => (((p0.toInt < -999) ∨ ((¬ (p0.toInt < -999)) ∧ (999 < p0.toInt))) ∧ 0 = u ∧ xE dC dI [] (va_A [] sz) t) ∨ (((¬ (p0.toInt < -999)) ∧ (¬ (999 < p0.toInt))) ∧ 1 = u ∧ xE dC dI [] (va_A [] sz) t)) (va_A [] sz)) 0 0 (va_A [] sz) := by
  refine Met.ofW (cc := cX12_isBetween) (maxL := 6) (ret := (some .boolean)) (by decide +kernel) rfl ?_
  intro p e s m args below meth c s₁ B hml hv
  obtain ⟨rfl, hsz, hP, hK, hD0, hG⟩ := hv
  have hx := B.exec
  have hb := B.bytes
  have hr := B.returns
  have hts := atoms_spec (ws := wsX12_isBetween) B.pre
  have hown : s.vm.findClass RX12 = some m.cls := findClass_of_methodNamed B.named
  have hlocks := B.notSynchronized
  subst hsz
  have hD := hD0.self (sz := s.heap.size)
  generalize hAe : va_A [] s.heap.size = A at hD hG ⊢
  have hA : ∀ q : Nat, s.heap.size ≤ q → A q := fun q h => by rw [← hAe]; exact Or.inr h
  have hS : va_S A s.heap s.heap [] := va_S.rf
  have hl := lv_entry ([.long p0, .long (-999), .long 999]) (n := 6) (Nat.le_of_ble_eq_true rfl)
  rw [lg_entry_eq]
  generalize (lg_sl ([.long p0, .long (-999), .long 999]) ++ List.replicate (6 - (lg_sl ([.long p0, .long (-999), .long 999])).length) Slot.unset).toArray = ls at hl ⊢
  have hl : lv_has ls 6 [(0, .long p0), (2, .long (-999)), (4, .long 999)] := hl
  refine lv_lload_n hx hb dX12_isBetween_0 rfl (lv_at hl 1 rfl) ?_
  refine lv_lload_n hx hb dX12_isBetween_1 rfl (lv_at hl 0 rfl) ?_
  refine W.lcmp hx hb dX12_isBetween_2 ?_
  refine lv_if_gt (tgt := 17) hx hb dX12_isBetween_3 (by decide) (fun c_1 => ?_) (fun c_1 => ?_)
  · have nc_1 : p0.toInt < -999 := (xl_gt rfl (by decide +kernel)).mp c_1
    refine lv_iconst (v := 0) hx hb dX12_isBetween_17 (by decide) ?_
    have hP9 := hP.sub (ws' := []) [] rfl
    have hD9 := hD.sub (ws' := []) [] (by decide) rfl
    exact W.zret (v := 0) hx hb hr (by decide) (fun t ht hW => ⟨⟨_, _, rfl, rfl, (Or.inl ⟨(Or.inl nc_1), rfl, by rw [ht]; exact hP9, hD9⟩)⟩, hS.F ht⟩) hS.2.2 dX12_isBetween_18
  · have nc_1 : ¬ (p0.toInt < -999) := mt (xl_gt rfl (by decide +kernel)).mpr c_1
    refine lv_lload_n hx hb dX12_isBetween_6 rfl (lv_at hl 0 rfl) ?_
    refine lv_lload hx hb dX12_isBetween_7 (lv_at hl 2 rfl) ?_
    refine W.lcmp hx hb dX12_isBetween_9 ?_
    refine lv_if_gt (tgt := 17) hx hb dX12_isBetween_10 (by decide) (fun c_2 => ?_) (fun c_2 => ?_)
    · have nc_2 : 999 < p0.toInt := (xl_gt (by decide +kernel) rfl).mp c_2
      refine lv_iconst (v := 0) hx hb dX12_isBetween_17 (by decide) ?_
      have hP9 := hP.sub (ws' := []) [] rfl
      have hD9 := hD.sub (ws' := []) [] (by decide) rfl
      exact W.zret (v := 0) hx hb hr (by decide) (fun t ht hW => ⟨⟨_, _, rfl, rfl, (Or.inl ⟨(Or.inr (⟨nc_1, nc_2⟩)), rfl, by rw [ht]; exact hP9, hD9⟩)⟩, hS.F ht⟩) hS.2.2 dX12_isBetween_18
    · have nc_2 : ¬ (999 < p0.toInt) := mt (xl_gt (by decide +kernel) rfl).mpr c_2
      refine lv_iconst (v := 1) hx hb dX12_isBetween_13 (by decide) ?_
      refine lv_goto (tgt := 18) hx hb dX12_isBetween_14 (by decide) ?_
      have hP9 := hP.sub (ws' := []) [] rfl
      have hD9 := hD.sub (ws' := []) [] (by decide) rfl
      exact W.zret (v := 1) hx hb hr (by decide) (fun t ht hW => ⟨⟨_, _, rfl, rfl, (Or.inr (⟨⟨nc_1, nc_2⟩, rfl, by rw [ht]; exact hP9, hD9⟩))⟩, hS.F ht⟩) hS.2.2 dX12_isBetween_18
set_option maxHeartbeats 4000000 in
set_option maxRecDepth 100000 in
theorem xcX12_isPlace_v2 (l : Launch) (hst : l.stackTraces = false) (dC : Nat → ClassId) (dI : Nat → Nat → Nat) (T : Nat → ClassId) (sz : Nat) (p0 : Int32) (p1 : Int32) : Met l yX12_isPlace wsX12_isPlace ({ frames := 1, cells := 0, slots := 0, locals := 25 } : Room) (va_Pc [.int p0, .int p1, .int 999] (fun U => xB dC dI T [] sz U)) (va_Qi (fun (r u : Int32) => r = u) (fun (u : Int32) (t : State) => (((((p0.toInt64).toInt < -999) ∨ ((¬ ((p0.toInt64).toInt < -999)) ∧ (999 < (p0.toInt64).toInt))) ∨ (((¬ ((p0.toInt64).toInt < -999)) ∧ (¬ (999 < (p0.toInt64).toInt))) ∧ (((p1.toInt64).toInt < -999) ∨ ((¬ ((p1.toInt64).toInt < -999)) ∧ (999 < (p1.toInt64).toInt))))) ∧ 0 = u ∧ xE dC dI [] (va_A [] sz) t) ∨ ((((¬ ((p0.toInt64).toInt < -999)) ∧ (¬ (999 < (p0.toInt64).toInt))) ∧ ((¬ ((p1.toInt64).toInt < -999)) ∧ (¬ (999 < (p1.toInt64).toInt)))) ∧ 1 = u ∧ xE dC dI [] (va_A [] sz) t)) (va_A [] sz)) 0 0 (va_A [] sz) := by
  refine Met.ofW (cc := cX12_isPlace) (maxL := 3) (ret := (some .boolean)) (by decide +kernel) rfl ?_
  intro p e s m args below meth c s₁ B hml hv
  obtain ⟨rfl, hsz, hP, hK, hD0, hG⟩ := hv
  have hx := B.exec
  have hb := B.bytes
  have hr := B.returns
  have hts := atoms_spec (ws := wsX12_isPlace) B.pre
  have hown : s.vm.findClass RX12 = some m.cls := findClass_of_methodNamed B.named
  have hlocks := B.notSynchronized
  subst hsz
  have hD := hD0.self (sz := s.heap.size)
  generalize hAe : va_A [] s.heap.size = A at hD hG ⊢
  have hA : ∀ q : Nat, s.heap.size ≤ q → A q := fun q h => by rw [← hAe]; exact Or.inr h
  have hS : va_S A s.heap s.heap [] := va_S.rf
  have hl := lv_entry ([.int p0, .int p1, .int 999]) (n := 3) (Nat.le_of_ble_eq_true rfl)
  rw [lg_entry_eq]
  generalize (lg_sl ([.int p0, .int p1, .int 999]) ++ List.replicate (3 - (lg_sl ([.int p0, .int p1, .int 999])).length) Slot.unset).toArray = ls at hl ⊢
  have hl : lv_has ls 3 [(0, .int p0), (1, .int p1), (2, .int 999)] := hl
  refine lv_iload_n hx hb dX12_isPlace_0 rfl (lv_at hl 0 rfl) ?_
  refine lv_i2l hx hb dX12_isPlace_1 rfl ?_
  refine lv_iload_n hx hb dX12_isPlace_2 rfl (lv_at hl 2 rfl) ?_
  refine lv_ineg hx hb dX12_isPlace_3 ?_
  refine lv_topi (fun f_1 ef_1 => ?_)
  obtain rfl : f_1 = (-999) := ef_1.trans (by decide)
  refine lv_i2l (v := (-999)) hx hb dX12_isPlace_4 (by decide) ?_
  refine lv_iload_n hx hb dX12_isPlace_5 rfl (lv_at hl 2 rfl) ?_
  refine lv_i2l (v := 999) hx hb dX12_isPlace_6 (by decide) ?_
  have hPc := hP.sub (ws' := []) [] rfl
  have hDc := hD.sub (ws' := []) [] (by decide) rfl
  have hFc := va_free (wc := []) hD hS hA [] rfl
  refine va_calli (va_runS (As := [.long p0.toInt64, .long (-999), .long 999]) (rest := []) ⟨hx, hb, hml, hown, hts⟩ (xcX12_isBetween_v5 l hst dC dI T s.heap.size p0.toInt64) (cwS 3 hts gX12_isPlace_X12_isBetween rfl rfl rfl (by decide +kernel) ⟨Nat.le_of_ble_eq_true rfl, Nat.le_of_ble_eq_true rfl⟩) ⟨xBlind, xCall hK hG hS hPc hDc hFc⟩ rfl rfl hl.1 rfl (lv_room (Nat.le_of_ble_eq_true rfl)) dX12_isPlace_7 ⟨Nat.le_of_ble_eq_true rfl, Nat.le_of_ble_eq_true rfl⟩) hS (fun q _ h => hFc q h) hFc (fun r_9 u t H locs ht hvm hw hB hz1 hk1 hS => ?_)
  subst hw
  rcases hB with ⟨c_2, hr_9, hP1, hD1⟩ | ⟨c_3, hr_9, hP1, hD1⟩
  · have hz_4 : (p0.toInt64).toInt = p0.toInt := Int32.toInt_toInt64 _
    rw [ht] at hP1
    subst hr_9
    obtain ⟨hP, hD⟩ := va_join (wr := []) (w1 := []) hP hD [] [] rfl rfl (by decide) (by decide) hk1 hFc hP1 hD1
    have hP : va_P (dC, dI) vwCl [] H := hP
    have hD : va_D A [] := hD
    clear hPc hDc hFc hP1 hD1 hk1 hz1 ht hvm
    refine lv_if_eq (tgt := 30) hx hb dX12_isPlace_10 (by decide) (fun c_5 => ?_) (fun c_5 => absurd (by decide) c_5)
    refine lv_iconst (v := 0) hx hb dX12_isPlace_30 (by decide) ?_
    have hP9 := hP.sub (ws' := []) [] rfl
    have hD9 := hD.sub (ws' := []) [] (by decide) rfl
    exact W.zret (v := 0) hx hb hr (by decide) (fun t ht hW => ⟨⟨_, _, rfl, rfl, (Or.inl ⟨(Or.inl c_2), rfl, by rw [ht]; exact hP9, hD9⟩)⟩, hS.F ht⟩) hS.2.2 dX12_isPlace_31
  · have hz_6 : (p0.toInt64).toInt = p0.toInt := Int32.toInt_toInt64 _
    rw [ht] at hP1
    subst hr_9
    obtain ⟨hP, hD⟩ := va_join (wr := []) (w1 := []) hP hD [] [] rfl rfl (by decide) (by decide) hk1 hFc hP1 hD1
    have hP : va_P (dC, dI) vwCl [] H := hP
    have hD : va_D A [] := hD
    clear hPc hDc hFc hP1 hD1 hk1 hz1 ht hvm
    refine lv_if_eq (tgt := 30) hx hb dX12_isPlace_10 (by decide) (fun c_7 => absurd c_7 (by decide)) (fun c_7 => ?_)
    refine lv_iload_n hx hb dX12_isPlace_13 rfl (lv_at hl 1 rfl) ?_
    refine lv_i2l hx hb dX12_isPlace_14 rfl ?_
    refine lv_iload_n hx hb dX12_isPlace_15 rfl (lv_at hl 2 rfl) ?_
    refine lv_ineg hx hb dX12_isPlace_16 ?_
    refine lv_topi (fun f_8 ef_8 => ?_)
    obtain rfl : f_8 = (-999) := ef_8.trans (by decide)
    refine lv_i2l (v := (-999)) hx hb dX12_isPlace_17 (by decide) ?_
    refine lv_iload_n hx hb dX12_isPlace_18 rfl (lv_at hl 2 rfl) ?_
    refine lv_i2l (v := 999) hx hb dX12_isPlace_19 (by decide) ?_
    have hPc := hP.sub (ws' := []) [] rfl
    have hDc := hD.sub (ws' := []) [] (by decide) rfl
    have hFc := va_free (wc := []) hD hS hA [] rfl
    refine va_calli (va_runS (As := [.long p1.toInt64, .long (-999), .long 999]) (rest := []) ⟨hx, hb, hml, hown, hts⟩ (xcX12_isBetween_v5 l hst dC dI T H.size p1.toInt64) (cwS 3 hts gX12_isPlace_X12_isBetween rfl rfl rfl (by decide +kernel) ⟨Nat.le_of_ble_eq_true rfl, Nat.le_of_ble_eq_true rfl⟩) ⟨xBlind, xCall hK hG hS hPc hDc hFc⟩ rfl rfl hl.1 rfl (lv_room (Nat.le_of_ble_eq_true rfl)) dX12_isPlace_20 ⟨Nat.le_of_ble_eq_true rfl, Nat.le_of_ble_eq_true rfl⟩) hS (fun q _ h => hFc q h) hFc (fun r_9 u t H locs ht hvm hw hB hz1 hk1 hS => ?_)
    subst hw
    rcases hB with ⟨c_9, hr_9, hP1, hD1⟩ | ⟨c_10, hr_9, hP1, hD1⟩
    · have hz_11 : (p1.toInt64).toInt = p1.toInt := Int32.toInt_toInt64 _
      rw [ht] at hP1
      subst hr_9
      obtain ⟨hP, hD⟩ := va_join (wr := []) (w1 := []) hP hD [] [] rfl rfl (by decide) (by decide) hk1 hFc hP1 hD1
      have hP : va_P (dC, dI) vwCl [] H := hP
      have hD : va_D A [] := hD
      clear hPc hDc hFc hP1 hD1 hk1 hz1 ht hvm
      refine lv_if_eq (tgt := 30) hx hb dX12_isPlace_23 (by decide) (fun c_12 => ?_) (fun c_12 => absurd (by decide) c_12)
      refine lv_iconst (v := 0) hx hb dX12_isPlace_30 (by decide) ?_
      have hP9 := hP.sub (ws' := []) [] rfl
      have hD9 := hD.sub (ws' := []) [] (by decide) rfl
      exact W.zret (v := 0) hx hb hr (by decide) (fun t ht hW => ⟨⟨_, _, rfl, rfl, (Or.inl ⟨(Or.inr (⟨c_3, c_9⟩)), rfl, by rw [ht]; exact hP9, hD9⟩)⟩, hS.F ht⟩) hS.2.2 dX12_isPlace_31
    · have hz_13 : (p1.toInt64).toInt = p1.toInt := Int32.toInt_toInt64 _
      rw [ht] at hP1
      subst hr_9
      obtain ⟨hP, hD⟩ := va_join (wr := []) (w1 := []) hP hD [] [] rfl rfl (by decide) (by decide) hk1 hFc hP1 hD1
      have hP : va_P (dC, dI) vwCl [] H := hP
      have hD : va_D A [] := hD
      clear hPc hDc hFc hP1 hD1 hk1 hz1 ht hvm
      refine lv_if_eq (tgt := 30) hx hb dX12_isPlace_23 (by decide) (fun c_14 => absurd c_14 (by decide)) (fun c_14 => ?_)
      refine lv_iconst (v := 1) hx hb dX12_isPlace_26 (by decide) ?_
      refine lv_goto (tgt := 31) hx hb dX12_isPlace_27 (by decide) ?_
      have hP9 := hP.sub (ws' := []) [] rfl
      have hD9 := hD.sub (ws' := []) [] (by decide) rfl
      exact W.zret (v := 1) hx hb hr (by decide) (fun t ht hW => ⟨⟨_, _, rfl, rfl, (Or.inr (⟨⟨c_3, c_10⟩, rfl, by rw [ht]; exact hP9, hD9⟩))⟩, hS.F ht⟩) hS.2.2 dX12_isPlace_31
set_option maxHeartbeats 4000000 in
set_option maxRecDepth 100000 in
theorem xcX12_isNoQuestion (l : Launch) (hst : l.stackTraces = false) (dC : Nat → ClassId) (dI : Nat → Nat → Nat) (T : Nat → ClassId) (a1 : Nat) (a2 : Nat) (a3 : Nat) (a4 : Nat) (sz : Nat) (p1 : Int32) (p2 : Int32) (p3 : Int32) : Met l yX12_isNoQuestion wsX12_isNoQuestion ({ frames := 2, cells := 0, slots := 0, locals := 47 } : Room) (va_Pc [.ref a1, .int p1, .int p2, .int p3, .int 0] (fun U => xB dC dI T [(a1, .inr (17, [.int 0, .ref a2, .ref a3, .ref a4, .long 0])), (a2, .inl (T 2, 12, .inr (.inr (.inr (.inr (fun _ => none))))))] sz U)) (va_Qi (fun (r u : Int32) => r = u) (fun (u : Int32) (t : State) => (((((p1.toInt = 101) ∨ ((¬ (p1.toInt = 101)) ∧ (p1.toInt = 115)) ∨ ((¬ (p1.toInt = 101)) ∧ (¬ (p1.toInt = 115)) ∧ (p1.toInt = 109)) ∨ ((¬ (p1.toInt = 101)) ∧ (¬ (p1.toInt = 115)) ∧ (¬ (p1.toInt = 109)) ∧ (p1.toInt = 112))) ∧ ((((p2.toInt64).toInt < -999) ∨ ((¬ ((p2.toInt64).toInt < -999)) ∧ (999 < (p2.toInt64).toInt))) ∨ (((¬ ((p2.toInt64).toInt < -999)) ∧ (¬ (999 < (p2.toInt64).toInt))) ∧ (((p3.toInt64).toInt < -999) ∨ ((¬ ((p3.toInt64).toInt < -999)) ∧ (999 < (p3.toInt64).toInt)))))) ∨ ((¬ (p1.toInt = 101)) ∧ (¬ (p1.toInt = 115)) ∧ (¬ (p1.toInt = 109)) ∧ (¬ (p1.toInt = 112)))) ∧ 1 = u ∧ xE dC dI [(a1, .inr (17, [.int 1, .ref a2, .ref a3, .ref a4, .long 0])), (a2, .inl (T 2, 12, .inr (.inr (.inr (.inr (fun _ => none))))))] (va_A [(a1, .inr (17, [.int 0, .ref a2, .ref a3, .ref a4, .long 0])), (a2, .inl (T 2, 12, .inr (.inr (.inr (.inr (fun _ => none))))))] sz) t) ∨ ((((p1.toInt = 101) ∨ ((¬ (p1.toInt = 101)) ∧ (p1.toInt = 115)) ∨ ((¬ (p1.toInt = 101)) ∧ (¬ (p1.toInt = 115)) ∧ (p1.toInt = 109)) ∨ ((¬ (p1.toInt = 101)) ∧ (¬ (p1.toInt = 115)) ∧ (¬ (p1.toInt = 109)) ∧ (p1.toInt = 112))) ∧ (((¬ ((p2.toInt64).toInt < -999)) ∧ (¬ (999 < (p2.toInt64).toInt))) ∧ ((¬ ((p3.toInt64).toInt < -999)) ∧ (¬ (999 < (p3.toInt64).toInt))))) ∧ 1 = u ∧ xE dC dI [(a1, .inr (17, [.int 2, .ref a2, .ref a3, .ref a4, .long 0])), (a2, .inl (T 2, 12, .inr (.inr (.inr (.inr (fun _ => none))))))] (va_A [(a1, .inr (17, [.int 0, .ref a2, .ref a3, .ref a4, .long 0])), (a2, .inl (T 2, 12, .inr (.inr (.inr (.inr (fun _ => none))))))] sz) t)) (va_A [(a1, .inr (17, [.int 0, .ref a2, .ref a3, .ref a4, .long 0])), (a2, .inl (T 2, 12, .inr (.inr (.inr (.inr (fun _ => none))))))] sz)) 0 0 (va_A [(a1, .inr (17, [.int 0, .ref a2, .ref a3, .ref a4, .long 0])), (a2, .inl (T 2, 12, .inr (.inr (.inr (.inr (fun _ => none))))))] sz) := by
  refine Met.ofW (cc := cX12_isNoQuestion) (maxL := 5) (ret := (some .boolean)) (by decide +kernel) rfl ?_
  intro p e s m args below meth c s₁ B hml hv
  obtain ⟨rfl, hsz, hP, hK, hD0, hG⟩ := hv
  have hx := B.exec
  have hb := B.bytes
  have hr := B.returns
  have hts := atoms_spec (ws := wsX12_isNoQuestion) B.pre
  have hown : s.vm.findClass RX12 = some m.cls := findClass_of_methodNamed B.named
  have hlocks := B.notSynchronized
  subst hsz
  have hD := hD0.self (sz := s.heap.size)
  generalize hAe : va_A [(a1, .inr (17, [.int 0, .ref a2, .ref a3, .ref a4, .long 0])), (a2, .inl (T 2, 12, .inr (.inr (.inr (.inr (fun _ => none))))))] s.heap.size = A at hD hG ⊢
  have hA : ∀ q : Nat, s.heap.size ≤ q → A q := fun q h => by rw [← hAe]; exact Or.inr h
  have hS : va_S A s.heap s.heap [] := va_S.rf
  have hl := lv_entry ([.ref a1, .int p1, .int p2, .int p3, .int 0]) (n := 5) (Nat.le_of_ble_eq_true rfl)
  rw [lg_entry_eq]
  generalize (lg_sl ([.ref a1, .int p1, .int p2, .int p3, .int 0]) ++ List.replicate (5 - (lg_sl ([.ref a1, .int p1, .int p2, .int p3, .int 0])).length) Slot.unset).toArray = ls at hl ⊢
  have hl : lv_has ls 5 [(0, .ref a1), (1, .int p1), (2, .int p2), (3, .int p3), (4, .int 0)] := hl
  refine lv_aload_n hx hb dX12_isNoQuestion_0 rfl (lv_at hl 0 rfl) ?_
  refine lv_iload_n hx hb dX12_isNoQuestion_1 rfl (lv_at hl 1 rfl) ?_
  have hPc := hP.sub (ws' := []) [] rfl
  have hDc := hD.sub (ws' := []) [] (by decide) rfl
  have hFc := va_free (wc := []) hD hS hA [] rfl
  refine va_calli (va_runS (As := [.int p1]) (rest := [.ref a1]) ⟨hx, hb, hml, hown, hts⟩ (xcX12_isKind l hst dC dI T s.heap.size p1) (cwS 1 hts gX12_isNoQuestion_X12_isKind rfl rfl rfl (by decide +kernel) ⟨Nat.le_of_ble_eq_true rfl, Nat.le_of_ble_eq_true rfl⟩) ⟨xBlind, xCall hK hG hS hPc hDc hFc⟩ rfl rfl hl.1 rfl (lv_room (Nat.le_of_ble_eq_true rfl)) dX12_isNoQuestion_2 ⟨Nat.le_of_ble_eq_true rfl, Nat.le_of_ble_eq_true rfl⟩) hS (fun q _ h => hFc q h) hFc (fun r_9 u t H locs ht hvm hw hB hz1 hk1 hS => ?_)
  subst hw
  rcases hB with ⟨c_1, hr_9, hP1, hD1⟩ | ⟨c_2, hr_9, hP1, hD1⟩
  · rw [ht] at hP1
    subst hr_9
    obtain ⟨hP, hD⟩ := va_join (wr := [(a1, .inr (17, [.int 0, .ref a2, .ref a3, .ref a4, .long 0])), (a2, .inl (T 2, 12, .inr (.inr (.inr (.inr (fun _ => none))))))]) (w1 := []) hP hD [] [0, 1] rfl rfl (by decide) (by decide) hk1 hFc hP1 hD1
    have hP : va_P (dC, dI) vwCl [(a1, .inr (17, [.int 0, .ref a2, .ref a3, .ref a4, .long 0])), (a2, .inl (T 2, 12, .inr (.inr (.inr (.inr (fun _ => none))))))] H := hP
    have hD : va_D A [(a1, .inr (17, [.int 0, .ref a2, .ref a3, .ref a4, .long 0])), (a2, .inl (T 2, 12, .inr (.inr (.inr (.inr (fun _ => none))))))] := hD
    clear hPc hDc hFc hP1 hD1 hk1 hz1 ht hvm
    refine lv_if_eq (tgt := 19) hx hb dX12_isNoQuestion_5 (by decide) (fun c_3 => absurd c_3 (by decide)) (fun c_3 => ?_)
    refine lv_iload_n hx hb dX12_isNoQuestion_8 rfl (lv_at hl 2 rfl) ?_
    refine lv_iload_n hx hb dX12_isNoQuestion_9 rfl (lv_at hl 3 rfl) ?_
    refine lv_sipush (v := 999) hx hb dX12_isNoQuestion_10 (by decide) ?_
    have hPc := hP.sub (ws' := []) [] rfl
    have hDc := hD.sub (ws' := []) [] (by decide) rfl
    have hFc := va_free (wc := []) hD hS hA [] rfl
    refine va_calli (va_runS (As := [.int p2, .int p3, .int 999]) (rest := [.ref a1]) ⟨hx, hb, hml, hown, hts⟩ (xcX12_isPlace_v2 l hst dC dI T H.size p2 p3) (cwS 3 hts gX12_isNoQuestion_X12_isPlace rfl rfl rfl (by decide +kernel) ⟨Nat.le_of_ble_eq_true rfl, Nat.le_of_ble_eq_true rfl⟩) ⟨xBlind, xCall hK hG hS hPc hDc hFc⟩ rfl rfl hl.1 rfl (lv_room (Nat.le_of_ble_eq_true rfl)) dX12_isNoQuestion_13 ⟨Nat.le_of_ble_eq_true rfl, Nat.le_of_ble_eq_true rfl⟩) hS (fun q _ h => hFc q h) hFc (fun r_9 u t H locs ht hvm hw hB hz1 hk1 hS => ?_)
    subst hw
    rcases hB with ⟨c_4, hr_9, hP1, hD1⟩ | ⟨c_5, hr_9, hP1, hD1⟩
    · have hz_6 : (p2.toInt64).toInt = p2.toInt := Int32.toInt_toInt64 _
      have hz_7 : (p3.toInt64).toInt = p3.toInt := Int32.toInt_toInt64 _
      rw [ht] at hP1
      subst hr_9
      obtain ⟨hP, hD⟩ := va_join (wr := [(a1, .inr (17, [.int 0, .ref a2, .ref a3, .ref a4, .long 0])), (a2, .inl (T 2, 12, .inr (.inr (.inr (.inr (fun _ => none))))))]) (w1 := []) hP hD [] [0, 1] rfl rfl (by decide) (by decide) hk1 hFc hP1 hD1
      have hP : va_P (dC, dI) vwCl [(a1, .inr (17, [.int 0, .ref a2, .ref a3, .ref a4, .long 0])), (a2, .inl (T 2, 12, .inr (.inr (.inr (.inr (fun _ => none))))))] H := hP
      have hD : va_D A [(a1, .inr (17, [.int 0, .ref a2, .ref a3, .ref a4, .long 0])), (a2, .inl (T 2, 12, .inr (.inr (.inr (.inr (fun _ => none))))))] := hD
      clear hPc hDc hFc hP1 hD1 hk1 hz1 ht hvm
      refine lv_if_ne (tgt := 23) hx hb dX12_isNoQuestion_16 (by decide) (fun c_8 => absurd c_8 (by decide)) (fun c_8 => ?_)
      refine lv_iconst (v := 1) hx hb dX12_isNoQuestion_19 (by decide) ?_
      refine lv_goto (tgt := 45) hx hb dX12_isNoQuestion_20 (by decide) ?_
      have hPc := hP.sub (ws' := [(a1, .inr (17, [.int 0, .ref a2, .ref a3, .ref a4, .long 0]))]) [0] rfl
      have hDc := hD.sub (ws' := [(a1, .inr (17, [.int 0, .ref a2, .ref a3, .ref a4, .long 0]))]) [0] (by decide) rfl
      have hFc := va_free (wc := [(a1, .inr (17, [.int 0, .ref a2, .ref a3, .ref a4, .long 0]))]) hD hS hA [0] rfl
      refine va_calli (va_runV (As := [.int 1]) (rest := []) ⟨hx, hb, hml, hown, hts⟩ (xcX12_isWrong l hst dC dI T a1 a2 a3 a4 H.size) (cwV 1 hts gX12_isNoQuestion_X12_isWrong rfl rfl rfl (by decide +kernel) ⟨Nat.le_of_ble_eq_true rfl, Nat.le_of_ble_eq_true rfl⟩) ⟨xBlind, va_recv hK hPc (ci := 17) (q0 := 0) rfl rfl, xCall hK hG hS hPc hDc hFc⟩ rfl rfl hl.1 rfl (lv_room (Nat.le_of_ble_eq_true rfl)) dX12_isNoQuestion_45 ⟨Nat.le_of_ble_eq_true rfl, Nat.le_of_ble_eq_true rfl⟩) hS (fun q _ h => hFc q h) hFc (fun r_9 u t H locs ht hvm hw hB hz1 hk1 hS => ?_)
      subst hw
      rcases hB with ⟨hr_9, hP1, hD1⟩
      rw [ht] at hP1
      subst hr_9
      obtain ⟨hP, hD⟩ := va_join (wr := [(a2, .inl (T 2, 12, .inr (.inr (.inr (.inr (fun _ => none))))))]) (w1 := [(a1, .inr (17, [.int 1, .ref a2, .ref a3, .ref a4, .long 0]))]) hP hD [0] [1] rfl rfl (by decide) (by decide) hk1 hFc hP1 hD1
      have hP := hP.sub (ws' := [(a1, .inr (17, [.int 1, .ref a2, .ref a3, .ref a4, .long 0])), (a2, .inl (T 2, 12, .inr (.inr (.inr (.inr (fun _ => none))))))]) [1, 0] rfl
      have hD := hD.sub (ws' := [(a1, .inr (17, [.int 1, .ref a2, .ref a3, .ref a4, .long 0])), (a2, .inl (T 2, 12, .inr (.inr (.inr (.inr (fun _ => none))))))]) [1, 0] (by decide) rfl
      clear hPc hDc hFc hP1 hD1 hk1 hz1 ht hvm
      have hP9 := hP.sub (ws' := [(a1, .inr (17, [.int 1, .ref a2, .ref a3, .ref a4, .long 0])), (a2, .inl (T 2, 12, .inr (.inr (.inr (.inr (fun _ => none))))))]) [0, 1] rfl
      have hD9 := hD.sub (ws' := [(a1, .inr (17, [.int 1, .ref a2, .ref a3, .ref a4, .long 0])), (a2, .inl (T 2, 12, .inr (.inr (.inr (.inr (fun _ => none))))))]) [0, 1] (by decide) rfl
      exact W.zret (v := 1) hx hb hr (by decide) (fun t ht hW => ⟨⟨_, _, rfl, rfl, (Or.inl ⟨(Or.inl ⟨c_1, c_4⟩), rfl, by rw [ht]; exact hP9, hD9⟩)⟩, hS.F ht⟩) hS.2.2 dX12_isNoQuestion_48
    · have hz_10 : (p2.toInt64).toInt = p2.toInt := Int32.toInt_toInt64 _
      have hz_11 : (p3.toInt64).toInt = p3.toInt := Int32.toInt_toInt64 _
      rw [ht] at hP1
      subst hr_9
      obtain ⟨hP, hD⟩ := va_join (wr := [(a1, .inr (17, [.int 0, .ref a2, .ref a3, .ref a4, .long 0])), (a2, .inl (T 2, 12, .inr (.inr (.inr (.inr (fun _ => none))))))]) (w1 := []) hP hD [] [0, 1] rfl rfl (by decide) (by decide) hk1 hFc hP1 hD1
      have hP : va_P (dC, dI) vwCl [(a1, .inr (17, [.int 0, .ref a2, .ref a3, .ref a4, .long 0])), (a2, .inl (T 2, 12, .inr (.inr (.inr (.inr (fun _ => none))))))] H := hP
      have hD : va_D A [(a1, .inr (17, [.int 0, .ref a2, .ref a3, .ref a4, .long 0])), (a2, .inl (T 2, 12, .inr (.inr (.inr (.inr (fun _ => none))))))] := hD
      clear hPc hDc hFc hP1 hD1 hk1 hz1 ht hvm
      refine lv_if_ne (tgt := 23) hx hb dX12_isNoQuestion_16 (by decide) (fun c_12 => ?_) (fun c_12 => absurd c_12 (by decide))
      refine lv_iload hx hb dX12_isNoQuestion_23 (lv_at hl 4 rfl) ?_
      refine lv_i2l (v := 0) hx hb dX12_isNoQuestion_25 (by decide) ?_
      refine lv_lconst (v := 0) hx hb dX12_isNoQuestion_26 (by decide) ?_
      refine lv_aload_n hx hb dX12_isNoQuestion_27 rfl (lv_at hl 0 rfl) ?_
      have hPc := hP.sub (ws' := [(a1, .inr (17, [.int 0, .ref a2, .ref a3, .ref a4, .long 0])), (a2, .inl (T 2, 12, .inr (.inr (.inr (.inr (fun _ => none))))))]) [0, 1] rfl
      have hDc := hD.sub (ws' := [(a1, .inr (17, [.int 0, .ref a2, .ref a3, .ref a4, .long 0])), (a2, .inl (T 2, 12, .inr (.inr (.inr (.inr (fun _ => none))))))]) [0, 1] (by decide) rfl
      have hFc := va_free (wc := [(a1, .inr (17, [.int 0, .ref a2, .ref a3, .ref a4, .long 0])), (a2, .inl (T 2, 12, .inr (.inr (.inr (.inr (fun _ => none))))))]) hD hS hA [0, 1] rfl
      refine va_calli (va_runV (As := []) (rest := [.long 0, .long 0, .ref a1]) ⟨hx, hb, hml, hown, hts⟩ (xcX12_many l hst dC dI T a1 a2 a3 a4 H.size) (cwV 0 hts gX12_isNoQuestion_X12_many rfl rfl rfl (by decide +kernel) ⟨Nat.le_of_ble_eq_true rfl, Nat.le_of_ble_eq_true rfl⟩) ⟨xBlind, va_recv hK hPc (ci := 17) (q0 := 0) rfl rfl, xCall hK hG hS hPc hDc hFc⟩ rfl rfl hl.1 rfl (lv_room (Nat.le_of_ble_eq_true rfl)) dX12_isNoQuestion_28 ⟨Nat.le_of_ble_eq_true rfl, Nat.le_of_ble_eq_true rfl⟩) hS (fun q _ h => hFc q h) hFc (fun r_9 u t H locs ht hvm hw hB hz1 hk1 hS => ?_)
      subst hw
      rcases hB with ⟨hr_9, hP1, hD1⟩
      rw [ht] at hP1
      subst hr_9
      obtain ⟨hP, hD⟩ := va_join (wr := []) (w1 := [(a1, .inr (17, [.int 0, .ref a2, .ref a3, .ref a4, .long 0])), (a2, .inl (T 2, 12, .inr (.inr (.inr (.inr (fun _ => none))))))]) hP hD [0, 1] [] rfl rfl (by decide) (by decide) hk1 hFc hP1 hD1
      have hP : va_P (dC, dI) vwCl [(a1, .inr (17, [.int 0, .ref a2, .ref a3, .ref a4, .long 0])), (a2, .inl (T 2, 12, .inr (.inr (.inr (.inr (fun _ => none))))))] H := hP
      have hD : va_D A [(a1, .inr (17, [.int 0, .ref a2, .ref a3, .ref a4, .long 0])), (a2, .inl (T 2, 12, .inr (.inr (.inr (.inr (fun _ => none))))))] := hD
      clear hPc hDc hFc hP1 hD1 hk1 hz1 ht hvm
      refine lv_iconst (v := 1) hx hb dX12_isNoQuestion_31 (by decide) ?_
      refine lv_isub hx hb dX12_isNoQuestion_32 ?_
      refine lv_topi (fun f_14 ef_14 => ?_)
      obtain rfl : f_14 = (-1) := ef_14.trans (by decide)
      refine lv_i2l (v := (-1)) hx hb dX12_isNoQuestion_33 (by decide) ?_
      have hPc := hP.sub (ws' := []) [] rfl
      have hDc := hD.sub (ws' := []) [] (by decide) rfl
      have hFc := va_free (wc := []) hD hS hA [] rfl
      refine va_calli (va_runS (As := [.long 0, .long 0, .long (-1)]) (rest := [.ref a1]) ⟨hx, hb, hml, hown, hts⟩ (xcX12_isBetween_v4 l hst dC dI T H.size 0 (-1)) (cwS 3 hts gX12_isNoQuestion_X12_isBetween rfl rfl rfl (by decide +kernel) ⟨Nat.le_of_ble_eq_true rfl, Nat.le_of_ble_eq_true rfl⟩) ⟨xBlind, xCall hK hG hS hPc hDc hFc⟩ rfl rfl hl.1 rfl (lv_room (Nat.le_of_ble_eq_true rfl)) dX12_isNoQuestion_34 ⟨Nat.le_of_ble_eq_true rfl, Nat.le_of_ble_eq_true rfl⟩) hS (fun q _ h => hFc q h) hFc (fun r_9 u t H locs ht hvm hw hB hz1 hk1 hS => ?_)
      subst hw
      rcases hB with ⟨c_15, hr_9, hP1, hD1⟩ | ⟨c_16, hr_9, hP1, hD1⟩
      · have hz_17 : ((0) : Int64).toInt = 0 := by decide +kernel
        have hz_18 : ((-1) : Int64).toInt = -1 := by decide +kernel
        rw [ht] at hP1
        subst hr_9
        obtain ⟨hP, hD⟩ := va_join (wr := [(a1, .inr (17, [.int 0, .ref a2, .ref a3, .ref a4, .long 0])), (a2, .inl (T 2, 12, .inr (.inr (.inr (.inr (fun _ => none))))))]) (w1 := []) hP hD [] [0, 1] rfl rfl (by decide) (by decide) hk1 hFc hP1 hD1
        have hP : va_P (dC, dI) vwCl [(a1, .inr (17, [.int 0, .ref a2, .ref a3, .ref a4, .long 0])), (a2, .inl (T 2, 12, .inr (.inr (.inr (.inr (fun _ => none))))))] H := hP
        have hD : va_D A [(a1, .inr (17, [.int 0, .ref a2, .ref a3, .ref a4, .long 0])), (a2, .inl (T 2, 12, .inr (.inr (.inr (.inr (fun _ => none))))))] := hD
        clear hPc hDc hFc hP1 hD1 hk1 hz1 ht hvm
        refine lv_if_eq (tgt := 44) hx hb dX12_isNoQuestion_37 (by decide) (fun c_19 => ?_) (fun c_19 => absurd (by decide) c_19)
        refine lv_iconst (v := 2) hx hb dX12_isNoQuestion_44 (by decide) ?_
        have hPc := hP.sub (ws' := [(a1, .inr (17, [.int 0, .ref a2, .ref a3, .ref a4, .long 0]))]) [0] rfl
        have hDc := hD.sub (ws' := [(a1, .inr (17, [.int 0, .ref a2, .ref a3, .ref a4, .long 0]))]) [0] (by decide) rfl
        have hFc := va_free (wc := [(a1, .inr (17, [.int 0, .ref a2, .ref a3, .ref a4, .long 0]))]) hD hS hA [0] rfl
        refine va_calli (va_runV (As := [.int 2]) (rest := []) ⟨hx, hb, hml, hown, hts⟩ (xcX12_isWrong_v3 l hst dC dI T a1 a2 a3 a4 H.size) (cwV 1 hts gX12_isNoQuestion_X12_isWrong rfl rfl rfl (by decide +kernel) ⟨Nat.le_of_ble_eq_true rfl, Nat.le_of_ble_eq_true rfl⟩) ⟨xBlind, va_recv hK hPc (ci := 17) (q0 := 0) rfl rfl, xCall hK hG hS hPc hDc hFc⟩ rfl rfl hl.1 rfl (lv_room (Nat.le_of_ble_eq_true rfl)) dX12_isNoQuestion_45 ⟨Nat.le_of_ble_eq_true rfl, Nat.le_of_ble_eq_true rfl⟩) hS (fun q _ h => hFc q h) hFc (fun r_9 u t H locs ht hvm hw hB hz1 hk1 hS => ?_)
        subst hw
        rcases hB with ⟨hr_9, hP1, hD1⟩
        rw [ht] at hP1
        subst hr_9
        obtain ⟨hP, hD⟩ := va_join (wr := [(a2, .inl (T 2, 12, .inr (.inr (.inr (.inr (fun _ => none))))))]) (w1 := [(a1, .inr (17, [.int 2, .ref a2, .ref a3, .ref a4, .long 0]))]) hP hD [0] [1] rfl rfl (by decide) (by decide) hk1 hFc hP1 hD1
        have hP := hP.sub (ws' := [(a1, .inr (17, [.int 2, .ref a2, .ref a3, .ref a4, .long 0])), (a2, .inl (T 2, 12, .inr (.inr (.inr (.inr (fun _ => none))))))]) [1, 0] rfl
        have hD := hD.sub (ws' := [(a1, .inr (17, [.int 2, .ref a2, .ref a3, .ref a4, .long 0])), (a2, .inl (T 2, 12, .inr (.inr (.inr (.inr (fun _ => none))))))]) [1, 0] (by decide) rfl
        clear hPc hDc hFc hP1 hD1 hk1 hz1 ht hvm
        have hP9 := hP.sub (ws' := [(a1, .inr (17, [.int 2, .ref a2, .ref a3, .ref a4, .long 0])), (a2, .inl (T 2, 12, .inr (.inr (.inr (.inr (fun _ => none))))))]) [0, 1] rfl
        have hD9 := hD.sub (ws' := [(a1, .inr (17, [.int 2, .ref a2, .ref a3, .ref a4, .long 0])), (a2, .inl (T 2, 12, .inr (.inr (.inr (.inr (fun _ => none))))))]) [0, 1] (by decide) rfl
        exact W.zret (v := 1) hx hb hr (by decide) (fun t ht hW => ⟨⟨_, _, rfl, rfl, (Or.inr (⟨⟨c_1, c_5⟩, rfl, by rw [ht]; exact hP9, hD9⟩))⟩, hS.F ht⟩) hS.2.2 dX12_isNoQuestion_48
      · have hz_21 : ((0) : Int64).toInt = 0 := by decide +kernel
        have hz_22 : ((-1) : Int64).toInt = -1 := by decide +kernel
        exact absurd c_16 (by omega)
  · rw [ht] at hP1
    subst hr_9
    obtain ⟨hP, hD⟩ := va_join (wr := [(a1, .inr (17, [.int 0, .ref a2, .ref a3, .ref a4, .long 0])), (a2, .inl (T 2, 12, .inr (.inr (.inr (.inr (fun _ => none))))))]) (w1 := []) hP hD [] [0, 1] rfl rfl (by decide) (by decide) hk1 hFc hP1 hD1
    have hP : va_P (dC, dI) vwCl [(a1, .inr (17, [.int 0, .ref a2, .ref a3, .ref a4, .long 0])), (a2, .inl (T 2, 12, .inr (.inr (.inr (.inr (fun _ => none))))))] H := hP
    have hD : va_D A [(a1, .inr (17, [.int 0, .ref a2, .ref a3, .ref a4, .long 0])), (a2, .inl (T 2, 12, .inr (.inr (.inr (.inr (fun _ => none))))))] := hD
    clear hPc hDc hFc hP1 hD1 hk1 hz1 ht hvm
    refine lv_if_eq (tgt := 19) hx hb dX12_isNoQuestion_5 (by decide) (fun c_23 => ?_) (fun c_23 => absurd (by decide) c_23)
    refine lv_iconst (v := 1) hx hb dX12_isNoQuestion_19 (by decide) ?_
    refine lv_goto (tgt := 45) hx hb dX12_isNoQuestion_20 (by decide) ?_
    have hPc := hP.sub (ws' := [(a1, .inr (17, [.int 0, .ref a2, .ref a3, .ref a4, .long 0]))]) [0] rfl
    have hDc := hD.sub (ws' := [(a1, .inr (17, [.int 0, .ref a2, .ref a3, .ref a4, .long 0]))]) [0] (by decide) rfl
    have hFc := va_free (wc := [(a1, .inr (17, [.int 0, .ref a2, .ref a3, .ref a4, .long 0]))]) hD hS hA [0] rfl
    refine va_calli (va_runV (As := [.int 1]) (rest := []) ⟨hx, hb, hml, hown, hts⟩ (xcX12_isWrong l hst dC dI T a1 a2 a3 a4 H.size) (cwV 1 hts gX12_isNoQuestion_X12_isWrong rfl rfl rfl (by decide +kernel) ⟨Nat.le_of_ble_eq_true rfl, Nat.le_of_ble_eq_true rfl⟩) ⟨xBlind, va_recv hK hPc (ci := 17) (q0 := 0) rfl rfl, xCall hK hG hS hPc hDc hFc⟩ rfl rfl hl.1 rfl (lv_room (Nat.le_of_ble_eq_true rfl)) dX12_isNoQuestion_45 ⟨Nat.le_of_ble_eq_true rfl, Nat.le_of_ble_eq_true rfl⟩) hS (fun q _ h => hFc q h) hFc (fun r_9 u t H locs ht hvm hw hB hz1 hk1 hS => ?_)
    subst hw
    rcases hB with ⟨hr_9, hP1, hD1⟩
    rw [ht] at hP1
    subst hr_9
    obtain ⟨hP, hD⟩ := va_join (wr := [(a2, .inl (T 2, 12, .inr (.inr (.inr (.inr (fun _ => none))))))]) (w1 := [(a1, .inr (17, [.int 1, .ref a2, .ref a3, .ref a4, .long 0]))]) hP hD [0] [1] rfl rfl (by decide) (by decide) hk1 hFc hP1 hD1
    have hP := hP.sub (ws' := [(a1, .inr (17, [.int 1, .ref a2, .ref a3, .ref a4, .long 0])), (a2, .inl (T 2, 12, .inr (.inr (.inr (.inr (fun _ => none))))))]) [1, 0] rfl
    have hD := hD.sub (ws' := [(a1, .inr (17, [.int 1, .ref a2, .ref a3, .ref a4, .long 0])), (a2, .inl (T 2, 12, .inr (.inr (.inr (.inr (fun _ => none))))))]) [1, 0] (by decide) rfl
    clear hPc hDc hFc hP1 hD1 hk1 hz1 ht hvm
    have hP9 := hP.sub (ws' := [(a1, .inr (17, [.int 1, .ref a2, .ref a3, .ref a4, .long 0])), (a2, .inl (T 2, 12, .inr (.inr (.inr (.inr (fun _ => none))))))]) [0, 1] rfl
    have hD9 := hD.sub (ws' := [(a1, .inr (17, [.int 1, .ref a2, .ref a3, .ref a4, .long 0])), (a2, .inl (T 2, 12, .inr (.inr (.inr (.inr (fun _ => none))))))]) [0, 1] (by decide) rfl
    exact W.zret (v := 1) hx hb hr (by decide) (fun t ht hW => ⟨⟨_, _, rfl, rfl, (Or.inl ⟨(Or.inr (c_2)), rfl, by rw [ht]; exact hP9, hD9⟩)⟩, hS.F ht⟩) hS.2.2 dX12_isNoQuestion_48
set_option maxHeartbeats 4000000 in
set_option maxRecDepth 100000 in
theorem xcX12_farthest (l : Launch) (hst : l.stackTraces = false) (dC : Nat → ClassId) (dI : Nat → Nat → Nat) (T : Nat → ClassId) (a1 : Nat) (a2 : Nat) (a3 : Nat) (a4 : Nat) (sz : Nat) (p1 : Int32) (p2 : Int32) (p3 : Int32) : Met l yX12_farthest wsX12_farthest ({ frames := 3, cells := 0, slots := 0, locals := 71 } : Room) (va_Pc [.ref a1, .int p1, .int p2, .int p3] (fun U => xB dC dI T [(a1, .inr (17, [.int 0, .ref a2, .ref a3, .ref a4, .long 0])), (a2, .inl (T 2, 12, .inr (.inr (.inr (.inr (fun _ => none))))))] sz U)) (va_Qi (fun (r u : Int32) => r = u) (fun (u : Int32) (t : State) => (((((p1.toInt = 101) ∨ ((¬ (p1.toInt = 101)) ∧ (p1.toInt = 115)) ∨ ((¬ (p1.toInt = 101)) ∧ (¬ (p1.toInt = 115)) ∧ (p1.toInt = 109)) ∨ ((¬ (p1.toInt = 101)) ∧ (¬ (p1.toInt = 115)) ∧ (¬ (p1.toInt = 109)) ∧ (p1.toInt = 112))) ∧ ((((p2.toInt64).toInt < -999) ∨ ((¬ ((p2.toInt64).toInt < -999)) ∧ (999 < (p2.toInt64).toInt))) ∨ (((¬ ((p2.toInt64).toInt < -999)) ∧ (¬ (999 < (p2.toInt64).toInt))) ∧ (((p3.toInt64).toInt < -999) ∨ ((¬ ((p3.toInt64).toInt < -999)) ∧ (999 < (p3.toInt64).toInt)))))) ∨ ((¬ (p1.toInt = 101)) ∧ (¬ (p1.toInt = 115)) ∧ (¬ (p1.toInt = 109)) ∧ (¬ (p1.toInt = 112)))) ∧ 0 = u ∧ xE dC dI [(a1, .inr (17, [.int 1, .ref a2, .ref a3, .ref a4, .long 0]))] (va_A [(a1, .inr (17, [.int 0, .ref a2, .ref a3, .ref a4, .long 0])), (a2, .inl (T 2, 12, .inr (.inr (.inr (.inr (fun _ => none))))))] sz) t) ∨ ((((p1.toInt = 101) ∨ ((¬ (p1.toInt = 101)) ∧ (p1.toInt = 115)) ∨ ((¬ (p1.toInt = 101)) ∧ (¬ (p1.toInt = 115)) ∧ (p1.toInt = 109)) ∨ ((¬ (p1.toInt = 101)) ∧ (¬ (p1.toInt = 115)) ∧ (¬ (p1.toInt = 109)) ∧ (p1.toInt = 112))) ∧ (((¬ ((p2.toInt64).toInt < -999)) ∧ (¬ (999 < (p2.toInt64).toInt))) ∧ ((¬ ((p3.toInt64).toInt < -999)) ∧ (¬ (999 < (p3.toInt64).toInt))))) ∧ 0 = u ∧ xE dC dI [(a1, .inr (17, [.int 2, .ref a2, .ref a3, .ref a4, .long 0]))] (va_A [(a1, .inr (17, [.int 0, .ref a2, .ref a3, .ref a4, .long 0])), (a2, .inl (T 2, 12, .inr (.inr (.inr (.inr (fun _ => none))))))] sz) t)) (va_A [(a1, .inr (17, [.int 0, .ref a2, .ref a3, .ref a4, .long 0])), (a2, .inl (T 2, 12, .inr (.inr (.inr (.inr (fun _ => none))))))] sz)) 0 0 (va_A [(a1, .inr (17, [.int 0, .ref a2, .ref a3, .ref a4, .long 0])), (a2, .inl (T 2, 12, .inr (.inr (.inr (.inr (fun _ => none))))))] sz) := by
  refine Met.ofW (cc := cX12_farthest) (maxL := 6) (ret := (some .int)) (by decide +kernel) rfl ?_
  intro p e s m args below meth c s₁ B hml hv
  obtain ⟨rfl, hsz, hP, hK, hD0, hG⟩ := hv
  have hx := B.exec
  have hb := B.bytes
  have hr := B.returns
  have hts := atoms_spec (ws := wsX12_farthest) B.pre
  have hown : s.vm.findClass RX12 = some m.cls := findClass_of_methodNamed B.named
  have hlocks := B.notSynchronized
  subst hsz
  have hD := hD0.self (sz := s.heap.size)
  generalize hAe : va_A [(a1, .inr (17, [.int 0, .ref a2, .ref a3, .ref a4, .long 0])), (a2, .inl (T 2, 12, .inr (.inr (.inr (.inr (fun _ => none))))))] s.heap.size = A at hD hG ⊢
  have hA : ∀ q : Nat, s.heap.size ≤ q → A q := fun q h => by rw [← hAe]; exact Or.inr h
  have hS : va_S A s.heap s.heap [] := va_S.rf
  have hl := lv_entry ([.ref a1, .int p1, .int p2, .int p3]) (n := 6) (Nat.le_of_ble_eq_true rfl)
  rw [lg_entry_eq]
  generalize (lg_sl ([.ref a1, .int p1, .int p2, .int p3]) ++ List.replicate (6 - (lg_sl ([.ref a1, .int p1, .int p2, .int p3])).length) Slot.unset).toArray = ls at hl ⊢
  have hl : lv_has ls 6 [(0, .ref a1), (1, .int p1), (2, .int p2), (3, .int p3)] := hl
  refine lv_aload_n hx hb dX12_farthest_0 rfl (lv_at hl 0 rfl) ?_
  refine lv_iload_n hx hb dX12_farthest_1 rfl (lv_at hl 1 rfl) ?_
  refine lv_iload_n hx hb dX12_farthest_2 rfl (lv_at hl 2 rfl) ?_
  refine lv_iload_n hx hb dX12_farthest_3 rfl (lv_at hl 3 rfl) ?_
  refine lv_iconst (v := 0) hx hb dX12_farthest_4 (by decide) ?_
  have hPc := hP.sub (ws' := [(a1, .inr (17, [.int 0, .ref a2, .ref a3, .ref a4, .long 0])), (a2, .inl (T 2, 12, .inr (.inr (.inr (.inr (fun _ => none))))))]) [0, 1] rfl
  have hDc := hD.sub (ws' := [(a1, .inr (17, [.int 0, .ref a2, .ref a3, .ref a4, .long 0])), (a2, .inl (T 2, 12, .inr (.inr (.inr (.inr (fun _ => none))))))]) [0, 1] (by decide) rfl
  have hFc := va_free (wc := [(a1, .inr (17, [.int 0, .ref a2, .ref a3, .ref a4, .long 0])), (a2, .inl (T 2, 12, .inr (.inr (.inr (.inr (fun _ => none))))))]) hD hS hA [0, 1] rfl
  refine va_calli (va_runV (As := [.int p1, .int p2, .int p3, .int 0]) (rest := []) ⟨hx, hb, hml, hown, hts⟩ (xcX12_isNoQuestion l hst dC dI T a1 a2 a3 a4 s.heap.size p1 p2 p3) (cwV 4 hts gX12_farthest_X12_isNoQuestion rfl rfl rfl (by decide +kernel) ⟨Nat.le_of_ble_eq_true rfl, Nat.le_of_ble_eq_true rfl⟩) ⟨xBlind, va_recv hK hPc (ci := 17) (q0 := 0) rfl rfl, xCall hK hG hS hPc hDc hFc⟩ rfl rfl hl.1 rfl (lv_room (Nat.le_of_ble_eq_true rfl)) dX12_farthest_5 ⟨Nat.le_of_ble_eq_true rfl, Nat.le_of_ble_eq_true rfl⟩) hS (fun q _ h => hFc q h) hFc (fun r_9 u t H locs ht hvm hw hB hz1 hk1 hS => ?_)
  subst hw
  rcases hB with ⟨c_1, hr_9, hP1, hD1⟩ | ⟨c_2, hr_9, hP1, hD1⟩
  · have hz_3 : (p2.toInt64).toInt = p2.toInt := Int32.toInt_toInt64 _
    have hz_4 : (p3.toInt64).toInt = p3.toInt := Int32.toInt_toInt64 _
    rw [ht] at hP1
    subst hr_9
    obtain ⟨hP, hD⟩ := va_join (wr := []) (w1 := [(a1, .inr (17, [.int 1, .ref a2, .ref a3, .ref a4, .long 0])), (a2, .inl (T 2, 12, .inr (.inr (.inr (.inr (fun _ => none))))))]) hP hD [0, 1] [] rfl rfl (by decide) (by decide) hk1 hFc hP1 hD1
    have hP : va_P (dC, dI) vwCl [(a1, .inr (17, [.int 1, .ref a2, .ref a3, .ref a4, .long 0])), (a2, .inl (T 2, 12, .inr (.inr (.inr (.inr (fun _ => none))))))] H := hP
    have hD : va_D A [(a1, .inr (17, [.int 1, .ref a2, .ref a3, .ref a4, .long 0])), (a2, .inl (T 2, 12, .inr (.inr (.inr (.inr (fun _ => none))))))] := hD
    clear hPc hDc hFc hP1 hD1 hk1 hz1 ht hvm
    refine lv_if_eq (tgt := 13) hx hb dX12_farthest_8 (by decide) (fun c_5 => absurd c_5 (by decide)) (fun c_5 => ?_)
    refine lv_iconst (v := 0) hx hb dX12_farthest_11 (by decide) ?_
    have hP9 := hP.sub (ws' := [(a1, .inr (17, [.int 1, .ref a2, .ref a3, .ref a4, .long 0]))]) [0] rfl
    have hD9 := hD.sub (ws' := [(a1, .inr (17, [.int 1, .ref a2, .ref a3, .ref a4, .long 0]))]) [0] (by decide) rfl
    exact W.iret (v := 0) hx hb hr (fun t ht hW => ⟨⟨_, _, rfl, rfl, (Or.inl ⟨c_1, rfl, by rw [ht]; exact hP9, hD9⟩)⟩, hS.F ht⟩) hS.2.2 dX12_farthest_12
  · have hz_6 : (p2.toInt64).toInt = p2.toInt := Int32.toInt_toInt64 _
    have hz_7 : (p3.toInt64).toInt = p3.toInt := Int32.toInt_toInt64 _
    rw [ht] at hP1
    subst hr_9
    obtain ⟨hP, hD⟩ := va_join (wr := []) (w1 := [(a1, .inr (17, [.int 2, .ref a2, .ref a3, .ref a4, .long 0])), (a2, .inl (T 2, 12, .inr (.inr (.inr (.inr (fun _ => none))))))]) hP hD [0, 1] [] rfl rfl (by decide) (by decide) hk1 hFc hP1 hD1
    have hP : va_P (dC, dI) vwCl [(a1, .inr (17, [.int 2, .ref a2, .ref a3, .ref a4, .long 0])), (a2, .inl (T 2, 12, .inr (.inr (.inr (.inr (fun _ => none))))))] H := hP
    have hD : va_D A [(a1, .inr (17, [.int 2, .ref a2, .ref a3, .ref a4, .long 0])), (a2, .inl (T 2, 12, .inr (.inr (.inr (.inr (fun _ => none))))))] := hD
    clear hPc hDc hFc hP1 hD1 hk1 hz1 ht hvm
    refine lv_if_eq (tgt := 13) hx hb dX12_farthest_8 (by decide) (fun c_8 => absurd c_8 (by decide)) (fun c_8 => ?_)
    refine lv_iconst (v := 0) hx hb dX12_farthest_11 (by decide) ?_
    have hP9 := hP.sub (ws' := [(a1, .inr (17, [.int 2, .ref a2, .ref a3, .ref a4, .long 0]))]) [0] rfl
    have hD9 := hD.sub (ws' := [(a1, .inr (17, [.int 2, .ref a2, .ref a3, .ref a4, .long 0]))]) [0] (by decide) rfl
    exact W.iret (v := 0) hx hb hr (fun t ht hW => ⟨⟨_, _, rfl, rfl, (Or.inr (⟨c_2, rfl, by rw [ht]; exact hP9, hD9⟩))⟩, hS.F ht⟩) hS.2.2 dX12_farthest_12
set_option maxHeartbeats 4000000 in
set_option maxRecDepth 100000 in
theorem xcX12_getHullShare (l : Launch) (hst : l.stackTraces = false) (dC : Nat → ClassId) (dI : Nat → Nat → Nat) (T : Nat → ClassId) (a1 : Nat) (a2 : Nat) (a3 : Nat) (a4 : Nat) (sz : Nat) : Met l yX12_getHullShare wsX12_getHullShare ({ frames := 1, cells := 0, slots := 0, locals := 25 } : Room) (va_Pc [.ref a1] (fun U => xB dC dI T [(a1, .inr (17, [.int 0, .ref a2, .ref a3, .ref a4, .long 0])), (a2, .inl (T 2, 12, .inr (.inr (.inr (.inr (fun _ => none))))))] sz U)) (va_Qf (fun (r u : UInt32) => r = u) (fun (u : UInt32) (t : State) => FP.fconst0 = u ∧ xE dC dI [(a1, .inr (17, [.int 1, .ref a2, .ref a3, .ref a4, .long 0]))] (va_A [(a1, .inr (17, [.int 0, .ref a2, .ref a3, .ref a4, .long 0])), (a2, .inl (T 2, 12, .inr (.inr (.inr (.inr (fun _ => none))))))] sz) t) (va_A [(a1, .inr (17, [.int 0, .ref a2, .ref a3, .ref a4, .long 0])), (a2, .inl (T 2, 12, .inr (.inr (.inr (.inr (fun _ => none))))))] sz)) 0 0 (va_A [(a1, .inr (17, [.int 0, .ref a2, .ref a3, .ref a4, .long 0])), (a2, .inl (T 2, 12, .inr (.inr (.inr (.inr (fun _ => none))))))] sz) := by
  refine Met.ofW (cc := cX12_getHullShare) (maxL := 1) (ret := (some .float)) (by decide +kernel) rfl ?_
  intro p e s m args below meth c s₁ B hml hv
  obtain ⟨rfl, hsz, hP, hK, hD0, hG⟩ := hv
  have hx := B.exec
  have hb := B.bytes
  have hr := B.returns
  have hts := atoms_spec (ws := wsX12_getHullShare) B.pre
  have hown : s.vm.findClass RX12 = some m.cls := findClass_of_methodNamed B.named
  have hlocks := B.notSynchronized
  subst hsz
  have hD := hD0.self (sz := s.heap.size)
  generalize hAe : va_A [(a1, .inr (17, [.int 0, .ref a2, .ref a3, .ref a4, .long 0])), (a2, .inl (T 2, 12, .inr (.inr (.inr (.inr (fun _ => none))))))] s.heap.size = A at hD hG ⊢
  have hA : ∀ q : Nat, s.heap.size ≤ q → A q := fun q h => by rw [← hAe]; exact Or.inr h
  have hS : va_S A s.heap s.heap [] := va_S.rf
  have hl := lv_entry ([.ref a1]) (n := 1) (Nat.le_of_ble_eq_true rfl)
  rw [lg_entry_eq]
  generalize (lg_sl ([.ref a1]) ++ List.replicate (1 - (lg_sl ([.ref a1])).length) Slot.unset).toArray = ls at hl ⊢
  have hl : lv_has ls 1 [(0, .ref a1)] := hl
  refine lv_aload_n hx hb dX12_getHullShare_0 rfl (lv_at hl 0 rfl) ?_
  refine lv_aload_n hx hb dX12_getHullShare_1 rfl (lv_at hl 0 rfl) ?_
  have hPc := hP.sub (ws' := [(a1, .inr (17, [.int 0, .ref a2, .ref a3, .ref a4, .long 0])), (a2, .inl (T 2, 12, .inr (.inr (.inr (.inr (fun _ => none))))))]) [0, 1] rfl
  have hDc := hD.sub (ws' := [(a1, .inr (17, [.int 0, .ref a2, .ref a3, .ref a4, .long 0])), (a2, .inl (T 2, 12, .inr (.inr (.inr (.inr (fun _ => none))))))]) [0, 1] (by decide) rfl
  have hFc := va_free (wc := [(a1, .inr (17, [.int 0, .ref a2, .ref a3, .ref a4, .long 0])), (a2, .inl (T 2, 12, .inr (.inr (.inr (.inr (fun _ => none))))))]) hD hS hA [0, 1] rfl
  refine va_calli (va_runV (As := []) (rest := [.ref a1]) ⟨hx, hb, hml, hown, hts⟩ (xcX12_many l hst dC dI T a1 a2 a3 a4 s.heap.size) (cwV 0 hts gX12_getHullShare_X12_many rfl rfl rfl (by decide +kernel) ⟨Nat.le_of_ble_eq_true rfl, Nat.le_of_ble_eq_true rfl⟩) ⟨xBlind, va_recv hK hPc (ci := 17) (q0 := 0) rfl rfl, xCall hK hG hS hPc hDc hFc⟩ rfl rfl hl.1 rfl (lv_room (Nat.le_of_ble_eq_true rfl)) dX12_getHullShare_2 ⟨Nat.le_of_ble_eq_true rfl, Nat.le_of_ble_eq_true rfl⟩) hS (fun q _ h => hFc q h) hFc (fun r_9 u t H locs ht hvm hw hB hz1 hk1 hS => ?_)
  subst hw
  rcases hB with ⟨hr_9, hP1, hD1⟩
  rw [ht] at hP1
  subst hr_9
  obtain ⟨hP, hD⟩ := va_join (wr := []) (w1 := [(a1, .inr (17, [.int 0, .ref a2, .ref a3, .ref a4, .long 0])), (a2, .inl (T 2, 12, .inr (.inr (.inr (.inr (fun _ => none))))))]) hP hD [0, 1] [] rfl rfl (by decide) (by decide) hk1 hFc hP1 hD1
  have hP : va_P (dC, dI) vwCl [(a1, .inr (17, [.int 0, .ref a2, .ref a3, .ref a4, .long 0])), (a2, .inl (T 2, 12, .inr (.inr (.inr (.inr (fun _ => none))))))] H := hP
  have hD : va_D A [(a1, .inr (17, [.int 0, .ref a2, .ref a3, .ref a4, .long 0])), (a2, .inl (T 2, 12, .inr (.inr (.inr (.inr (fun _ => none))))))] := hD
  clear hPc hDc hFc hP1 hD1 hk1 hz1 ht hvm
  refine lv_if_ne (tgt := 12) hx hb dX12_getHullShare_5 (by decide) (fun c_2 => absurd c_2 (by decide)) (fun c_2 => ?_)
  refine lv_iconst (v := 1) hx hb dX12_getHullShare_8 (by decide) ?_
  refine lv_goto (tgt := 13) hx hb dX12_getHullShare_9 (by decide) ?_
  have hPc := hP.sub (ws' := [(a1, .inr (17, [.int 0, .ref a2, .ref a3, .ref a4, .long 0]))]) [0] rfl
  have hDc := hD.sub (ws' := [(a1, .inr (17, [.int 0, .ref a2, .ref a3, .ref a4, .long 0]))]) [0] (by decide) rfl
  have hFc := va_free (wc := [(a1, .inr (17, [.int 0, .ref a2, .ref a3, .ref a4, .long 0]))]) hD hS hA [0] rfl
  refine va_calli (va_runV (As := [.int 1]) (rest := []) ⟨hx, hb, hml, hown, hts⟩ (xcX12_isWrong l hst dC dI T a1 a2 a3 a4 H.size) (cwV 1 hts gX12_getHullShare_X12_isWrong rfl rfl rfl (by decide +kernel) ⟨Nat.le_of_ble_eq_true rfl, Nat.le_of_ble_eq_true rfl⟩) ⟨xBlind, va_recv hK hPc (ci := 17) (q0 := 0) rfl rfl, xCall hK hG hS hPc hDc hFc⟩ rfl rfl hl.1 rfl (lv_room (Nat.le_of_ble_eq_true rfl)) dX12_getHullShare_13 ⟨Nat.le_of_ble_eq_true rfl, Nat.le_of_ble_eq_true rfl⟩) hS (fun q _ h => hFc q h) hFc (fun r_9 u t H locs ht hvm hw hB hz1 hk1 hS => ?_)
  subst hw
  rcases hB with ⟨hr_9, hP1, hD1⟩
  rw [ht] at hP1
  subst hr_9
  obtain ⟨hP, hD⟩ := va_join (wr := [(a2, .inl (T 2, 12, .inr (.inr (.inr (.inr (fun _ => none))))))]) (w1 := [(a1, .inr (17, [.int 1, .ref a2, .ref a3, .ref a4, .long 0]))]) hP hD [0] [1] rfl rfl (by decide) (by decide) hk1 hFc hP1 hD1
  have hP := hP.sub (ws' := [(a1, .inr (17, [.int 1, .ref a2, .ref a3, .ref a4, .long 0])), (a2, .inl (T 2, 12, .inr (.inr (.inr (.inr (fun _ => none))))))]) [1, 0] rfl
  have hD := hD.sub (ws' := [(a1, .inr (17, [.int 1, .ref a2, .ref a3, .ref a4, .long 0])), (a2, .inl (T 2, 12, .inr (.inr (.inr (.inr (fun _ => none))))))]) [1, 0] (by decide) rfl
  clear hPc hDc hFc hP1 hD1 hk1 hz1 ht hvm
  refine lv_if_eq (tgt := 23) hx hb dX12_getHullShare_16 (by decide) (fun c_4 => absurd c_4 (by decide)) (fun c_4 => ?_)
  refine lv_fconst0 hx hb dX12_getHullShare_19 ?_
  refine lv_goto (tgt := 43) hx hb dX12_getHullShare_20 (by decide) ?_
  have hP9 := hP.sub (ws' := [(a1, .inr (17, [.int 1, .ref a2, .ref a3, .ref a4, .long 0]))]) [0] rfl
  have hD9 := hD.sub (ws' := [(a1, .inr (17, [.int 1, .ref a2, .ref a3, .ref a4, .long 0]))]) [0] (by decide) rfl
  exact W.fret (v := FP.fconst0) hx hb hr (fun t ht hW => ⟨⟨_, _, rfl, rfl, ⟨rfl, by rw [ht]; exact hP9, hD9⟩⟩, hS.F ht⟩) hS.2.2 dX12_getHullShare_43
set_option maxHeartbeats 4000000 in
set_option maxRecDepth 100000 in
theorem xcX12_neighbours (l : Launch) (hst : l.stackTraces = false) (dC : Nat → ClassId) (dI : Nat → Nat → Nat) (T : Nat → ClassId) (a1 : Nat) (a2 : Nat) (a3 : Nat) (a4 : Nat) (sz : Nat) (p1 : Int32) : Met l yX12_neighbours wsX12_neighbours ({ frames := 3, cells := 0, slots := 0, locals := 70 } : Room) (va_Pc [.ref a1, .int p1] (fun U => xB dC dI T [(a1, .inr (17, [.int 0, .ref a2, .ref a3, .ref a4, .long 0])), (a2, .inl (T 2, 12, .inr (.inr (.inr (.inr (fun _ => none))))))] sz U)) (va_Qi (fun (r u : Int32) => r = u) (fun (u : Int32) (t : State) => 0 = u ∧ xE dC dI [(a1, .inr (17, [.int 0, .ref a2, .ref a3, .ref a4, .long 0])), (a2, .inl (T 2, 12, .inr (.inr (.inr (.inr (fun _ => none))))))] (va_A [(a1, .inr (17, [.int 0, .ref a2, .ref a3, .ref a4, .long 0])), (a2, .inl (T 2, 12, .inr (.inr (.inr (.inr (fun _ => none))))))] sz) t) (va_A [(a1, .inr (17, [.int 0, .ref a2, .ref a3, .ref a4, .long 0])), (a2, .inl (T 2, 12, .inr (.inr (.inr (.inr (fun _ => none))))))] sz)) 0 0 (va_A [(a1, .inr (17, [.int 0, .ref a2, .ref a3, .ref a4, .long 0])), (a2, .inl (T 2, 12, .inr (.inr (.inr (.inr (fun _ => none))))))] sz) := by
  refine Met.ofW (cc := cX12_neighbours) (maxL := 4) (ret := (some .int)) (by decide +kernel) rfl ?_
  intro p e s m args below meth c s₁ B hml hv
  obtain ⟨rfl, hsz, hP, hK, hD0, hG⟩ := hv
  have hx := B.exec
  have hb := B.bytes
  have hr := B.returns
  have hts := atoms_spec (ws := wsX12_neighbours) B.pre
  have hown : s.vm.findClass RX12 = some m.cls := findClass_of_methodNamed B.named
  have hlocks := B.notSynchronized
  subst hsz
  have hD := hD0.self (sz := s.heap.size)
  generalize hAe : va_A [(a1, .inr (17, [.int 0, .ref a2, .ref a3, .ref a4, .long 0])), (a2, .inl (T 2, 12, .inr (.inr (.inr (.inr (fun _ => none))))))] s.heap.size = A at hD hG ⊢
  have hA : ∀ q : Nat, s.heap.size ≤ q → A q := fun q h => by rw [← hAe]; exact Or.inr h
  have hS : va_S A s.heap s.heap [] := va_S.rf
  have hl := lv_entry ([.ref a1, .int p1]) (n := 4) (Nat.le_of_ble_eq_true rfl)
  rw [lg_entry_eq]
  generalize (lg_sl ([.ref a1, .int p1]) ++ List.replicate (4 - (lg_sl ([.ref a1, .int p1])).length) Slot.unset).toArray = ls at hl ⊢
  have hl : lv_has ls 4 [(0, .ref a1), (1, .int p1)] := hl
  refine lv_iconst (v := 0) hx hb dX12_neighbours_0 (by decide) ?_
  refine lv_istore_n (lv' := [(2, .int 0), (0, .ref a1), (1, .int p1)]) hx hb dX12_neighbours_1 rfl hl (by decide) rfl (fun ls hl => ?_)
  refine lv_iconst (v := 0) hx hb dX12_neighbours_2 (by decide) ?_
  refine lv_istore_n (lv' := [(3, .int 0), (2, .int 0), (0, .ref a1), (1, .int p1)]) hx hb dX12_neighbours_3 rfl hl (by decide) rfl (fun ls hl => ?_)
  refine xLoop (P := fun i_k_1 H locs ls => va_P (dC, dI) vwCl [(a1, .inr (17, [.int 0, .ref a2, .ref a3, .ref a4, .long 0])), (a2, .inl (T 2, 12, .inr (.inr (.inr (.inr (fun _ => none))))))] H ∧ va_D A [(a1, .inr (17, [.int 0, .ref a2, .ref a3, .ref a4, .long 0])), (a2, .inl (T 2, 12, .inr (.inr (.inr (.inr (fun _ => none))))))] ∧ va_S A s.heap H locs ∧ lv_has ls 4 [(3, .int (nI i_k_1)), (2, .int 0), (0, .ref a1), (1, .int p1)]) (N := 12) (fun i_k_1 H locs ls hi_k_1 hI ih_k_1 => ?_) (0) _ _ _ (by omega) ⟨hP, hD, hS, lv_sub hl [0, 1, 2, 3] rfl⟩
  obtain ⟨hP, hD, hS, hl⟩ := hI
  refine lv_iload_n hx hb dX12_neighbours_4 rfl (lv_at hl 0 rfl) ?_
  refine lv_bipush (v := 12) hx hb dX12_neighbours_5 (by decide) ?_
  have hz_3 : (nI i_k_1).toInt = ((i_k_1 : Nat) : Int) := nI_toInt (by omega)
  refine lv_icmp_ge (tgt := 33) hx hb dX12_neighbours_7 (by decide) (fun c_2 => ?_) (fun c_2 => ?_)
  · have nc_2 : 12 ≤ (nI i_k_1).toInt := (xi_le (by decide +kernel) rfl).mp c_2
    refine lv_iload_n hx hb dX12_neighbours_33 rfl (lv_at hl 1 rfl) ?_
    have hP9 := hP.sub (ws' := [(a1, .inr (17, [.int 0, .ref a2, .ref a3, .ref a4, .long 0])), (a2, .inl (T 2, 12, .inr (.inr (.inr (.inr (fun _ => none))))))]) [0, 1] rfl
    have hD9 := hD.sub (ws' := [(a1, .inr (17, [.int 0, .ref a2, .ref a3, .ref a4, .long 0])), (a2, .inl (T 2, 12, .inr (.inr (.inr (.inr (fun _ => none))))))]) [0, 1] (by decide) rfl
    exact W.iret (v := 0) hx hb hr (fun t ht hW => ⟨⟨_, _, rfl, rfl, ⟨rfl, by rw [ht]; exact hP9, hD9⟩⟩, hS.F ht⟩) hS.2.2 dX12_neighbours_34
  · have nc_2 : ¬ (12 ≤ (nI i_k_1).toInt) := mt (xi_le (by decide +kernel) rfl).mpr c_2
    refine lv_iload_n hx hb dX12_neighbours_10 rfl (lv_at hl 1 rfl) ?_
    refine lv_aload_n hx hb dX12_neighbours_11 rfl (lv_at hl 2 rfl) ?_
    refine lv_iload_n hx hb dX12_neighbours_12 rfl (lv_at hl 3 rfl) ?_
    refine lv_iload_n hx hb dX12_neighbours_13 rfl (lv_at hl 0 rfl) ?_
    have hPc := hP.sub (ws' := [(a1, .inr (17, [.int 0, .ref a2, .ref a3, .ref a4, .long 0])), (a2, .inl (T 2, 12, .inr (.inr (.inr (.inr (fun _ => none))))))]) [0, 1] rfl
    have hDc := hD.sub (ws' := [(a1, .inr (17, [.int 0, .ref a2, .ref a3, .ref a4, .long 0])), (a2, .inl (T 2, 12, .inr (.inr (.inr (.inr (fun _ => none))))))]) [0, 1] (by decide) rfl
    have hFc := va_free (wc := [(a1, .inr (17, [.int 0, .ref a2, .ref a3, .ref a4, .long 0])), (a2, .inl (T 2, 12, .inr (.inr (.inr (.inr (fun _ => none))))))]) hD hS hA [0, 1] rfl
    refine va_calli (va_runV (As := [.int p1, .int (nI i_k_1)]) (rest := [.int 0]) ⟨hx, hb, hml, hown, hts⟩ (xcX12_isEdge l hst dC dI T a1 a2 a3 a4 H.size p1 (nI i_k_1)) (cwV 2 hts gX12_neighbours_X12_isEdge rfl rfl rfl (by decide +kernel) ⟨Nat.le_of_ble_eq_true rfl, Nat.le_of_ble_eq_true rfl⟩) ⟨xBlind, va_recv hK hPc (ci := 17) (q0 := 0) rfl rfl, xCall hK hG hS hPc hDc hFc⟩ rfl rfl hl.1 rfl (lv_room (Nat.le_of_ble_eq_true rfl)) dX12_neighbours_14 ⟨Nat.le_of_ble_eq_true rfl, Nat.le_of_ble_eq_true rfl⟩) hS (fun q _ h => hFc q h) hFc (fun r_9 u t H locs ht hvm hw hB hz1 hk1 hS => ?_)
    subst hw
    rcases hB with ⟨hr_9, hP1, hD1⟩
    rw [ht] at hP1
    subst hr_9
    obtain ⟨hP, hD⟩ := va_join (wr := []) (w1 := [(a1, .inr (17, [.int 0, .ref a2, .ref a3, .ref a4, .long 0])), (a2, .inl (T 2, 12, .inr (.inr (.inr (.inr (fun _ => none))))))]) hP hD [0, 1] [] rfl rfl (by decide) (by decide) hk1 hFc hP1 hD1
    have hP : va_P (dC, dI) vwCl [(a1, .inr (17, [.int 0, .ref a2, .ref a3, .ref a4, .long 0])), (a2, .inl (T 2, 12, .inr (.inr (.inr (.inr (fun _ => none))))))] H := hP
    have hD : va_D A [(a1, .inr (17, [.int 0, .ref a2, .ref a3, .ref a4, .long 0])), (a2, .inl (T 2, 12, .inr (.inr (.inr (.inr (fun _ => none))))))] := hD
    clear hPc hDc hFc hP1 hD1 hk1 hz1 ht hvm
    refine lv_if_eq (tgt := 24) hx hb dX12_neighbours_17 (by decide) (fun c_5 => ?_) (fun c_5 => absurd (by decide) c_5)
    refine lv_iconst (v := 0) hx hb dX12_neighbours_24 (by decide) ?_
    refine lv_iadd hx hb dX12_neighbours_25 ?_
    refine lv_topi (fun f_6 ef_6 => ?_)
    obtain rfl : f_6 = 0 := ef_6.trans (by decide)
    refine lv_istore_n (lv' := [(2, .int 0), (3, .int (nI i_k_1)), (0, .ref a1), (1, .int p1)]) hx hb dX12_neighbours_26 rfl hl (by decide) rfl (fun ls hl => ?_)
    refine lv_iinc (v := (nI (i_k_1 + 1))) (lv' := [(3, .int (nI (i_k_1 + 1))), (2, .int 0), (0, .ref a1), (1, .int p1)]) hx hb dX12_neighbours_27 hl (k := 1) rfl (nI_1 _) (by decide) rfl (fun ls hl => ?_)
    refine lv_goto (tgt := 4) hx hb dX12_neighbours_30 (by decide) ?_
    exact ih_k_1 _ _ _ (by omega) ⟨hP, hD, hS, lv_sub hl [0, 1, 2, 3] rfl⟩
set_option maxHeartbeats 4000000 in
set_option maxRecDepth 100000 in
theorem xcX12_getMeanNeighbours (l : Launch) (hst : l.stackTraces = false) (dC : Nat → ClassId) (dI : Nat → Nat → Nat) (T : Nat → ClassId) (a1 : Nat) (a2 : Nat) (a3 : Nat) (a4 : Nat) (sz : Nat) : Met l yX12_getMeanNeighbours wsX12_getMeanNeighbours ({ frames := 4, cells := 0, slots := 0, locals := 93 } : Room) (va_Pc [.ref a1] (fun U => xB dC dI T [(a1, .inr (17, [.int 0, .ref a2, .ref a3, .ref a4, .long 0])), (a2, .inl (T 2, 12, .inr (.inr (.inr (.inr (fun _ => none))))))] sz U)) (va_Qd (fun (r u : UInt64) => r = u) (fun (u : UInt64) (t : State) => FP.dconst0 = u ∧ xE dC dI [(a1, .inr (17, [.int 1, .ref a2, .ref a3, .ref a4, .long 0]))] (va_A [(a1, .inr (17, [.int 0, .ref a2, .ref a3, .ref a4, .long 0])), (a2, .inl (T 2, 12, .inr (.inr (.inr (.inr (fun _ => none))))))] sz) t) (va_A [(a1, .inr (17, [.int 0, .ref a2, .ref a3, .ref a4, .long 0])), (a2, .inl (T 2, 12, .inr (.inr (.inr (.inr (fun _ => none))))))] sz)) 0 0 (va_A [(a1, .inr (17, [.int 0, .ref a2, .ref a3, .ref a4, .long 0])), (a2, .inl (T 2, 12, .inr (.inr (.inr (.inr (fun _ => none))))))] sz) := by
  refine Met.ofW (cc := cX12_getMeanNeighbours) (maxL := 3) (ret := (some .double)) (by decide +kernel) rfl ?_
  intro p e s m args below meth c s₁ B hml hv
  obtain ⟨rfl, hsz, hP, hK, hD0, hG⟩ := hv
  have hx := B.exec
  have hb := B.bytes
  have hr := B.returns
  have hts := atoms_spec (ws := wsX12_getMeanNeighbours) B.pre
  have hown : s.vm.findClass RX12 = some m.cls := findClass_of_methodNamed B.named
  have hlocks := B.notSynchronized
  subst hsz
  have hD := hD0.self (sz := s.heap.size)
  generalize hAe : va_A [(a1, .inr (17, [.int 0, .ref a2, .ref a3, .ref a4, .long 0])), (a2, .inl (T 2, 12, .inr (.inr (.inr (.inr (fun _ => none))))))] s.heap.size = A at hD hG ⊢
  have hA : ∀ q : Nat, s.heap.size ≤ q → A q := fun q h => by rw [← hAe]; exact Or.inr h
  have hS : va_S A s.heap s.heap [] := va_S.rf
  have hl := lv_entry ([.ref a1]) (n := 3) (Nat.le_of_ble_eq_true rfl)
  rw [lg_entry_eq]
  generalize (lg_sl ([.ref a1]) ++ List.replicate (3 - (lg_sl ([.ref a1])).length) Slot.unset).toArray = ls at hl ⊢
  have hl : lv_has ls 3 [(0, .ref a1)] := hl
  refine lv_iconst (v := 0) hx hb dX12_getMeanNeighbours_0 (by decide) ?_
  refine lv_istore_n (lv' := [(1, .int 0), (0, .ref a1)]) hx hb dX12_getMeanNeighbours_1 rfl hl (by decide) rfl (fun ls hl => ?_)
  refine lv_iconst (v := 0) hx hb dX12_getMeanNeighbours_2 (by decide) ?_
  refine lv_istore_n (lv' := [(2, .int 0), (1, .int 0), (0, .ref a1)]) hx hb dX12_getMeanNeighbours_3 rfl hl (by decide) rfl (fun ls hl => ?_)
  refine xLoop (P := fun i_k_1 H locs ls => va_P (dC, dI) vwCl [(a1, .inr (17, [.int 0, .ref a2, .ref a3, .ref a4, .long 0])), (a2, .inl (T 2, 12, .inr (.inr (.inr (.inr (fun _ => none))))))] H ∧ va_D A [(a1, .inr (17, [.int 0, .ref a2, .ref a3, .ref a4, .long 0])), (a2, .inl (T 2, 12, .inr (.inr (.inr (.inr (fun _ => none))))))] ∧ va_S A s.heap H locs ∧ lv_has ls 3 [(2, .int (nI i_k_1)), (1, .int 0), (0, .ref a1)]) (N := 12) (fun i_k_1 H locs ls hi_k_1 hI ih_k_1 => ?_) (0) _ _ _ (by omega) ⟨hP, hD, hS, lv_sub hl [0, 1, 2] rfl⟩
  obtain ⟨hP, hD, hS, hl⟩ := hI
  refine lv_iload_n hx hb dX12_getMeanNeighbours_4 rfl (lv_at hl 0 rfl) ?_
  refine lv_bipush (v := 12) hx hb dX12_getMeanNeighbours_5 (by decide) ?_
  have hz_3 : (nI i_k_1).toInt = ((i_k_1 : Nat) : Int) := nI_toInt (by omega)
  refine lv_icmp_ge (tgt := 24) hx hb dX12_getMeanNeighbours_7 (by decide) (fun c_2 => ?_) (fun c_2 => ?_)
  · have nc_2 : 12 ≤ (nI i_k_1).toInt := (xi_le (by decide +kernel) rfl).mp c_2
    refine lv_aload_n hx hb dX12_getMeanNeighbours_24 rfl (lv_at hl 2 rfl) ?_
    refine lv_aload_n hx hb dX12_getMeanNeighbours_25 rfl (lv_at hl 2 rfl) ?_
    have hPc := hP.sub (ws' := [(a1, .inr (17, [.int 0, .ref a2, .ref a3, .ref a4, .long 0])), (a2, .inl (T 2, 12, .inr (.inr (.inr (.inr (fun _ => none))))))]) [0, 1] rfl
    have hDc := hD.sub (ws' := [(a1, .inr (17, [.int 0, .ref a2, .ref a3, .ref a4, .long 0])), (a2, .inl (T 2, 12, .inr (.inr (.inr (.inr (fun _ => none))))))]) [0, 1] (by decide) rfl
    have hFc := va_free (wc := [(a1, .inr (17, [.int 0, .ref a2, .ref a3, .ref a4, .long 0])), (a2, .inl (T 2, 12, .inr (.inr (.inr (.inr (fun _ => none))))))]) hD hS hA [0, 1] rfl
    refine va_calli (va_runV (As := []) (rest := [.ref a1]) ⟨hx, hb, hml, hown, hts⟩ (xcX12_many l hst dC dI T a1 a2 a3 a4 H.size) (cwV 0 hts gX12_getMeanNeighbours_X12_many rfl rfl rfl (by decide +kernel) ⟨Nat.le_of_ble_eq_true rfl, Nat.le_of_ble_eq_true rfl⟩) ⟨xBlind, va_recv hK hPc (ci := 17) (q0 := 0) rfl rfl, xCall hK hG hS hPc hDc hFc⟩ rfl rfl hl.1 rfl (lv_room (Nat.le_of_ble_eq_true rfl)) dX12_getMeanNeighbours_26 ⟨Nat.le_of_ble_eq_true rfl, Nat.le_of_ble_eq_true rfl⟩) hS (fun q _ h => hFc q h) hFc (fun r_9 u t H locs ht hvm hw hB hz1 hk1 hS => ?_)
    subst hw
    rcases hB with ⟨hr_9, hP1, hD1⟩
    rw [ht] at hP1
    subst hr_9
    obtain ⟨hP, hD⟩ := va_join (wr := []) (w1 := [(a1, .inr (17, [.int 0, .ref a2, .ref a3, .ref a4, .long 0])), (a2, .inl (T 2, 12, .inr (.inr (.inr (.inr (fun _ => none))))))]) hP hD [0, 1] [] rfl rfl (by decide) (by decide) hk1 hFc hP1 hD1
    have hP : va_P (dC, dI) vwCl [(a1, .inr (17, [.int 0, .ref a2, .ref a3, .ref a4, .long 0])), (a2, .inl (T 2, 12, .inr (.inr (.inr (.inr (fun _ => none))))))] H := hP
    have hD : va_D A [(a1, .inr (17, [.int 0, .ref a2, .ref a3, .ref a4, .long 0])), (a2, .inl (T 2, 12, .inr (.inr (.inr (.inr (fun _ => none))))))] := hD
    clear hPc hDc hFc hP1 hD1 hk1 hz1 ht hvm
    refine lv_if_ne (tgt := 36) hx hb dX12_getMeanNeighbours_29 (by decide) (fun c_5 => absurd c_5 (by decide)) (fun c_5 => ?_)
    refine lv_iconst (v := 1) hx hb dX12_getMeanNeighbours_32 (by decide) ?_
    refine lv_goto (tgt := 37) hx hb dX12_getMeanNeighbours_33 (by decide) ?_
    have hPc := hP.sub (ws' := [(a1, .inr (17, [.int 0, .ref a2, .ref a3, .ref a4, .long 0]))]) [0] rfl
    have hDc := hD.sub (ws' := [(a1, .inr (17, [.int 0, .ref a2, .ref a3, .ref a4, .long 0]))]) [0] (by decide) rfl
    have hFc := va_free (wc := [(a1, .inr (17, [.int 0, .ref a2, .ref a3, .ref a4, .long 0]))]) hD hS hA [0] rfl
    refine va_calli (va_runV (As := [.int 1]) (rest := []) ⟨hx, hb, hml, hown, hts⟩ (xcX12_isWrong l hst dC dI T a1 a2 a3 a4 H.size) (cwV 1 hts gX12_getMeanNeighbours_X12_isWrong rfl rfl rfl (by decide +kernel) ⟨Nat.le_of_ble_eq_true rfl, Nat.le_of_ble_eq_true rfl⟩) ⟨xBlind, va_recv hK hPc (ci := 17) (q0 := 0) rfl rfl, xCall hK hG hS hPc hDc hFc⟩ rfl rfl hl.1 rfl (lv_room (Nat.le_of_ble_eq_true rfl)) dX12_getMeanNeighbours_37 ⟨Nat.le_of_ble_eq_true rfl, Nat.le_of_ble_eq_true rfl⟩) hS (fun q _ h => hFc q h) hFc (fun r_9 u t H locs ht hvm hw hB hz1 hk1 hS => ?_)
    subst hw
    rcases hB with ⟨hr_9, hP1, hD1⟩
    rw [ht] at hP1
    subst hr_9
    obtain ⟨hP, hD⟩ := va_join (wr := [(a2, .inl (T 2, 12, .inr (.inr (.inr (.inr (fun _ => none))))))]) (w1 := [(a1, .inr (17, [.int 1, .ref a2, .ref a3, .ref a4, .long 0]))]) hP hD [0] [1] rfl rfl (by decide) (by decide) hk1 hFc hP1 hD1
    have hP := hP.sub (ws' := [(a1, .inr (17, [.int 1, .ref a2, .ref a3, .ref a4, .long 0])), (a2, .inl (T 2, 12, .inr (.inr (.inr (.inr (fun _ => none))))))]) [1, 0] rfl
    have hD := hD.sub (ws' := [(a1, .inr (17, [.int 1, .ref a2, .ref a3, .ref a4, .long 0])), (a2, .inl (T 2, 12, .inr (.inr (.inr (.inr (fun _ => none))))))]) [1, 0] (by decide) rfl
    clear hPc hDc hFc hP1 hD1 hk1 hz1 ht hvm
    refine lv_if_eq (tgt := 47) hx hb dX12_getMeanNeighbours_40 (by decide) (fun c_7 => absurd c_7 (by decide)) (fun c_7 => ?_)
    refine lv_dconst0 hx hb dX12_getMeanNeighbours_43 ?_
    refine lv_goto (tgt := 55) hx hb dX12_getMeanNeighbours_44 (by decide) ?_
    have hP9 := hP.sub (ws' := [(a1, .inr (17, [.int 1, .ref a2, .ref a3, .ref a4, .long 0]))]) [0] rfl
    have hD9 := hD.sub (ws' := [(a1, .inr (17, [.int 1, .ref a2, .ref a3, .ref a4, .long 0]))]) [0] (by decide) rfl
    exact W.dret (v := FP.dconst0) hx hb hr (fun t ht hW => ⟨⟨_, _, rfl, rfl, ⟨rfl, by rw [ht]; exact hP9, hD9⟩⟩, hS.F ht⟩) hS.2.2 dX12_getMeanNeighbours_55
  · have nc_2 : ¬ (12 ≤ (nI i_k_1).toInt) := mt (xi_le (by decide +kernel) rfl).mpr c_2
    refine lv_iload_n hx hb dX12_getMeanNeighbours_10 rfl (lv_at hl 1 rfl) ?_
    refine lv_aload_n hx hb dX12_getMeanNeighbours_11 rfl (lv_at hl 2 rfl) ?_
    refine lv_iload_n hx hb dX12_getMeanNeighbours_12 rfl (lv_at hl 0 rfl) ?_
    have hPc := hP.sub (ws' := [(a1, .inr (17, [.int 0, .ref a2, .ref a3, .ref a4, .long 0])), (a2, .inl (T 2, 12, .inr (.inr (.inr (.inr (fun _ => none))))))]) [0, 1] rfl
    have hDc := hD.sub (ws' := [(a1, .inr (17, [.int 0, .ref a2, .ref a3, .ref a4, .long 0])), (a2, .inl (T 2, 12, .inr (.inr (.inr (.inr (fun _ => none))))))]) [0, 1] (by decide) rfl
    have hFc := va_free (wc := [(a1, .inr (17, [.int 0, .ref a2, .ref a3, .ref a4, .long 0])), (a2, .inl (T 2, 12, .inr (.inr (.inr (.inr (fun _ => none))))))]) hD hS hA [0, 1] rfl
    refine va_calli (va_runV (As := [.int (nI i_k_1)]) (rest := [.int 0]) ⟨hx, hb, hml, hown, hts⟩ (xcX12_neighbours l hst dC dI T a1 a2 a3 a4 H.size (nI i_k_1)) (cwV 1 hts gX12_getMeanNeighbours_X12_neighbours rfl rfl rfl (by decide +kernel) ⟨Nat.le_of_ble_eq_true rfl, Nat.le_of_ble_eq_true rfl⟩) ⟨xBlind, va_recv hK hPc (ci := 17) (q0 := 0) rfl rfl, xCall hK hG hS hPc hDc hFc⟩ rfl rfl hl.1 rfl (lv_room (Nat.le_of_ble_eq_true rfl)) dX12_getMeanNeighbours_13 ⟨Nat.le_of_ble_eq_true rfl, Nat.le_of_ble_eq_true rfl⟩) hS (fun q _ h => hFc q h) hFc (fun r_9 u t H locs ht hvm hw hB hz1 hk1 hS => ?_)
    subst hw
    rcases hB with ⟨hr_9, hP1, hD1⟩
    rw [ht] at hP1
    subst hr_9
    obtain ⟨hP, hD⟩ := va_join (wr := []) (w1 := [(a1, .inr (17, [.int 0, .ref a2, .ref a3, .ref a4, .long 0])), (a2, .inl (T 2, 12, .inr (.inr (.inr (.inr (fun _ => none))))))]) hP hD [0, 1] [] rfl rfl (by decide) (by decide) hk1 hFc hP1 hD1
    have hP : va_P (dC, dI) vwCl [(a1, .inr (17, [.int 0, .ref a2, .ref a3, .ref a4, .long 0])), (a2, .inl (T 2, 12, .inr (.inr (.inr (.inr (fun _ => none))))))] H := hP
    have hD : va_D A [(a1, .inr (17, [.int 0, .ref a2, .ref a3, .ref a4, .long 0])), (a2, .inl (T 2, 12, .inr (.inr (.inr (.inr (fun _ => none))))))] := hD
    clear hPc hDc hFc hP1 hD1 hk1 hz1 ht hvm
    refine lv_iadd hx hb dX12_getMeanNeighbours_16 ?_
    refine lv_topi (fun f_9 ef_9 => ?_)
    obtain rfl : f_9 = 0 := ef_9.trans (by decide)
    refine lv_istore_n (lv' := [(1, .int 0), (2, .int (nI i_k_1)), (0, .ref a1)]) hx hb dX12_getMeanNeighbours_17 rfl hl (by decide) rfl (fun ls hl => ?_)
    refine lv_iinc (v := (nI (i_k_1 + 1))) (lv' := [(2, .int (nI (i_k_1 + 1))), (1, .int 0), (0, .ref a1)]) hx hb dX12_getMeanNeighbours_18 hl (k := 1) rfl (nI_1 _) (by decide) rfl (fun ls hl => ?_)
    refine lv_goto (tgt := 4) hx hb dX12_getMeanNeighbours_21 (by decide) ?_
    exact ih_k_1 _ _ _ (by omega) ⟨hP, hD, hS, lv_sub hl [0, 1, 2] rfl⟩
set_option maxHeartbeats 4000000 in
set_option maxRecDepth 100000 in
theorem xcX12_hullArea (l : Launch) (hst : l.stackTraces = false) (dC : Nat → ClassId) (dI : Nat → Nat → Nat) (T : Nat → ClassId) (a1 : Nat) (a2 : Nat) (a3 : Nat) (a4 : Nat) (sz : Nat) : Met l yX12_hullArea wsX12_hullArea ({ frames := 5, cells := 1, slots := 3, locals := 99 } : Room) (va_Pc [.ref a1] (fun U => xB dC dI T [(a1, .inr (17, [.int 0, .ref a2, .ref a3, .ref a4, .long 0])), (a2, .inl (T 2, 12, .inr (.inr (.inr (.inr (fun _ => none))))))] sz U)) (va_Qi (fun (r u : Int32) => r = u) (fun (u : Int32) (t : State) => 0 = u ∧ xE dC dI [(a1, .inr (17, [.int 0, .ref a2, .ref a3, .ref a4, .long 0]))] (va_A [(a1, .inr (17, [.int 0, .ref a2, .ref a3, .ref a4, .long 0])), (a2, .inl (T 2, 12, .inr (.inr (.inr (.inr (fun _ => none))))))] sz) t) (va_A [(a1, .inr (17, [.int 0, .ref a2, .ref a3, .ref a4, .long 0])), (a2, .inl (T 2, 12, .inr (.inr (.inr (.inr (fun _ => none))))))] sz)) 1 3 (va_A [(a1, .inr (17, [.int 0, .ref a2, .ref a3, .ref a4, .long 0])), (a2, .inl (T 2, 12, .inr (.inr (.inr (.inr (fun _ => none))))))] sz) := by
  refine Met.ofW (cc := cX12_hullArea) (maxL := 5) (ret := (some .int)) (by decide +kernel) rfl ?_
  intro p e s m args below meth c s₁ B hml hv
  obtain ⟨rfl, hsz, hP, hK, hD0, hG⟩ := hv
  have hx := B.exec
  have hb := B.bytes
  have hr := B.returns
  have hts := atoms_spec (ws := wsX12_hullArea) B.pre
  have hown : s.vm.findClass RX12 = some m.cls := findClass_of_methodNamed B.named
  have hlocks := B.notSynchronized
  have hin_X12 : ∀ w ∈ wsX120, w ∈ wsX12_hullArea := by decide +kernel
  subst hsz
  have hD := hD0.self (sz := s.heap.size)
  generalize hAe : va_A [(a1, .inr (17, [.int 0, .ref a2, .ref a3, .ref a4, .long 0])), (a2, .inl (T 2, 12, .inr (.inr (.inr (.inr (fun _ => none))))))] s.heap.size = A at hD hG ⊢
  have hA : ∀ q : Nat, s.heap.size ≤ q → A q := fun q h => by rw [← hAe]; exact Or.inr h
  have hS : va_S A s.heap s.heap [] := va_S.rf
  have hl := lv_entry ([.ref a1]) (n := 5) (Nat.le_of_ble_eq_true rfl)
  rw [lg_entry_eq]
  generalize (lg_sl ([.ref a1]) ++ List.replicate (5 - (lg_sl ([.ref a1])).length) Slot.unset).toArray = ls at hl ⊢
  have hl : lv_has ls 5 [(0, .ref a1)] := hl
  refine lv_aload_n hx hb dX12_hullArea_0 rfl (lv_at hl 0 rfl) ?_
  refine lv_iconst (v := 0) hx hb dX12_hullArea_1 (by decide) ?_
  refine va_put (D := (dC, dI)) (ci := 17) (v := .int 0) (ty := .int) (C := RX12) (T := TX12) (N := 5) hx hb hts hin_X12 tyX12 tyX12_ok nmX12 hown hK hP hD hS 0 rfl rfl 0 (by decide) (hts (.fieldLink RX12 25 "NearestwardModel" "thrown" "I") (by decide +kernel)) (fun _ h9 => h9) rfl (by decide +kernel) rfl rfl (Nat.le_of_ble_eq_true rfl) dX12_hullArea_2 (fun H locs hP hD hS => ?_)
  have hP : va_P (dC, dI) vwCl [(a1, .inr (17, [.int 0, .ref a2, .ref a3, .ref a4, .long 0])), (a2, .inl (T 2, 12, .inr (.inr (.inr (.inr (fun _ => none))))))] H := hP
  have hD : va_D A [(a1, .inr (17, [.int 0, .ref a2, .ref a3, .ref a4, .long 0])), (a2, .inl (T 2, 12, .inr (.inr (.inr (.inr (fun _ => none))))))] := hD
  refine lv_aload_n hx hb dX12_hullArea_5 rfl (lv_at hl 0 rfl) ?_
  refine lv_aload_n hx hb dX12_hullArea_6 rfl (lv_at hl 0 rfl) ?_
  have hPc := hP.sub (ws' := [(a1, .inr (17, [.int 0, .ref a2, .ref a3, .ref a4, .long 0])), (a2, .inl (T 2, 12, .inr (.inr (.inr (.inr (fun _ => none))))))]) [0, 1] rfl
  have hDc := hD.sub (ws' := [(a1, .inr (17, [.int 0, .ref a2, .ref a3, .ref a4, .long 0])), (a2, .inl (T 2, 12, .inr (.inr (.inr (.inr (fun _ => none))))))]) [0, 1] (by decide) rfl
  have hFc := va_free (wc := [(a1, .inr (17, [.int 0, .ref a2, .ref a3, .ref a4, .long 0])), (a2, .inl (T 2, 12, .inr (.inr (.inr (.inr (fun _ => none))))))]) hD hS hA [0, 1] rfl
  refine va_calli (va_runV (As := []) (rest := [.ref a1]) ⟨hx, hb, hml, hown, hts⟩ (xcX12_all l hst dC dI T a1 a2 a3 a4 H.size) (cwV 0 hts gX12_hullArea_X12_all rfl rfl rfl (by decide +kernel) ⟨Nat.le_of_ble_eq_true rfl, Nat.le_of_ble_eq_true rfl⟩) ⟨xBlind, va_recv hK hPc (ci := 17) (q0 := 0) rfl rfl, xCall hK hG hS hPc hDc hFc⟩ rfl rfl hl.1 rfl (lv_room (Nat.le_of_ble_eq_true rfl)) dX12_hullArea_7 ⟨Nat.le_of_ble_eq_true rfl, Nat.le_of_ble_eq_true rfl⟩) hS (fun q _ h => hFc q h) hFc (fun r_9 u t H locs ht hvm hw hB hz1 hk1 hS => ?_)
  subst hw
  rcases hB with ⟨hr_9, hP1, hD1⟩
  rw [ht] at hP1
  subst hr_9
  obtain ⟨hP, hD⟩ := va_join (wr := []) (w1 := [(a1, .inr (17, [.int 0, .ref a2, .ref a3, .ref a4, .long 0])), (a2, .inl (T 2, 12, .inr (.inr (.inr (.inr (fun _ => none))))))]) hP hD [0, 1] [] rfl rfl (by decide) (by decide) hk1 hFc hP1 hD1
  have hP : va_P (dC, dI) vwCl [(a1, .inr (17, [.int 0, .ref a2, .ref a3, .ref a4, .long 0])), (a2, .inl (T 2, 12, .inr (.inr (.inr (.inr (fun _ => none))))))] H := hP
  have hD : va_D A [(a1, .inr (17, [.int 0, .ref a2, .ref a3, .ref a4, .long 0])), (a2, .inl (T 2, 12, .inr (.inr (.inr (.inr (fun _ => none))))))] := hD
  clear hPc hDc hFc hP1 hD1 hk1 hz1 ht hvm
  have hPc := hP.sub (ws' := [(a1, .inr (17, [.int 0, .ref a2, .ref a3, .ref a4, .long 0]))]) [0] rfl
  have hDc := hD.sub (ws' := [(a1, .inr (17, [.int 0, .ref a2, .ref a3, .ref a4, .long 0]))]) [0] (by decide) rfl
  have hFc := va_free (wc := [(a1, .inr (17, [.int 0, .ref a2, .ref a3, .ref a4, .long 0]))]) hD hS hA [0] rfl
  refine va_callr (va_runV (As := [.int 0]) (rest := []) ⟨hx, hb, hml, hown, hts⟩ (xcX12_hull l hst dC dI T a1 a2 a3 a4 H.size) (cwV 1 hts gX12_hullArea_X12_hull rfl rfl rfl (by decide +kernel) ⟨Nat.le_of_ble_eq_true rfl, Nat.le_of_ble_eq_true rfl⟩) ⟨xBlind, va_recv hK hPc (ci := 17) (q0 := 0) rfl rfl, xCall hK hG hS hPc hDc hFc⟩ rfl rfl hl.1 rfl (lv_room (Nat.le_of_ble_eq_true rfl)) dX12_hullArea_10 ⟨Nat.le_of_ble_eq_true rfl, Nat.le_of_ble_eq_true rfl⟩) hS (fun q _ h => hFc q h) hFc (fun u ra t H locs ht hvm hw hB hz1 hk1 hS => ?_)
  rcases hB with ⟨q_2, hr_9, hP1, hD1⟩
  rw [ht] at hP1
  subst hr_9
  obtain ⟨hP, hD⟩ := va_join (wr := [(a2, .inl (T 2, 12, .inr (.inr (.inr (.inr (fun _ => none))))))]) (w1 := [(a1, .inr (17, [.int 0, .ref a2, .ref a3, .ref a4, .long 0])), (q_2, .inr (4, [.int 0, .ref (dI 1000 0), .int 0]))]) hP hD [0] [1] rfl rfl (by decide) (by decide) hk1 hFc hP1 hD1
  have hP := hP.sub (ws' := [(a1, .inr (17, [.int 0, .ref a2, .ref a3, .ref a4, .long 0])), (a2, .inl (T 2, 12, .inr (.inr (.inr (.inr (fun _ => none)))))), (q_2, .inr (4, [.int 0, .ref (dI 1000 0), .int 0]))]) [1, 0, 2] rfl
  have hD := hD.sub (ws' := [(a1, .inr (17, [.int 0, .ref a2, .ref a3, .ref a4, .long 0])), (a2, .inl (T 2, 12, .inr (.inr (.inr (.inr (fun _ => none)))))), (q_2, .inr (4, [.int 0, .ref (dI 1000 0), .int 0]))]) [1, 0, 2] (by decide) rfl
  clear hPc hDc hFc hP1 hD1 hk1 hz1 ht hvm
  refine lv_astore_n (lv' := [(1, .ref q_2), (0, .ref a1)]) hx hb dX12_hullArea_13 rfl hl (by decide) rfl (fun ls hl => ?_)
  refine lv_lconst (v := 0) hx hb dX12_hullArea_14 (by decide) ?_
  refine lv_lstore_n (lv' := [(2, .long 0), (1, .ref q_2), (0, .ref a1)]) hx hb dX12_hullArea_15 rfl hl (by decide) rfl (fun ls hl => ?_)
  refine lv_iconst (v := 2) hx hb dX12_hullArea_16 (by decide) ?_
  refine lv_istore (lv' := [(4, .int 2), (2, .long 0), (1, .ref q_2), (0, .ref a1)]) hx hb dX12_hullArea_17 hl (by decide) rfl (fun ls hl => ?_)
  refine lv_iload hx hb dX12_hullArea_19 (lv_at hl 0 rfl) ?_
  refine lv_aload_n hx hb dX12_hullArea_21 rfl (lv_at hl 2 rfl) ?_
  have hPc := hP.sub (ws' := [(q_2, .inr (4, [.int 0, .ref (dI 1000 0), .int 0]))]) [2] rfl
  have hDc := hD.sub (ws' := [(q_2, .inr (4, [.int 0, .ref (dI 1000 0), .int 0]))]) [2] (by decide) rfl
  have hFc := va_free (wc := [(q_2, .inr (4, [.int 0, .ref (dI 1000 0), .int 0]))]) hD hS hA [2] rfl
  refine va_callFi (va_runF (As := []) (rest := [.int 2]) (hK.1 4 _ rfl).2 ⟨hx, hb, hml, hown, hts⟩ (xcJx4a65c_size_8abf5_v2 l hst dC dI T q_2 H.size) (va_cwF 0 hts gX12_hullArea_Jx4a65c_size_8abf5_f56Jx4a65c rfl rfl rfl (hG.2.2.2.2.2.2.1 ((⟨"java/util/List", "size", "()I"⟩ : MethodName), yJx4a65c_size_8abf5) (List.mem_of_getElem? (i := 1) rfl)) (by decide +kernel) ⟨Nat.le_of_ble_eq_true rfl, Nat.le_of_ble_eq_true rfl⟩) ⟨xBlind, va_recv hK hPc (ci := 4) (q0 := 0) rfl rfl, xCall hK hG hS hPc hDc hFc⟩ rfl rfl hl.1 rfl (lv_room (Nat.le_of_ble_eq_true rfl)) dX12_hullArea_22 ⟨Nat.le_of_ble_eq_true rfl, Nat.le_of_ble_eq_true rfl⟩) hS (fun q _ h => hFc q h) hFc (fun r_9 u t H locs ht hvm hw hB hz1 hk1 hS => ?_)
  subst hw
  rcases hB with ⟨hr_9, hP1, hD1⟩
  rw [ht] at hP1
  subst hr_9
  obtain ⟨hP, hD⟩ := va_join (wr := [(a1, .inr (17, [.int 0, .ref a2, .ref a3, .ref a4, .long 0])), (a2, .inl (T 2, 12, .inr (.inr (.inr (.inr (fun _ => none))))))]) (w1 := [(q_2, .inr (4, [.int 0, .ref (dI 1000 0), .int 0]))]) hP hD [2] [0, 1] rfl rfl (by decide) (by decide) hk1 hFc hP1 hD1
  have hP : va_P (dC, dI) vwCl [(a1, .inr (17, [.int 0, .ref a2, .ref a3, .ref a4, .long 0])), (a2, .inl (T 2, 12, .inr (.inr (.inr (.inr (fun _ => none)))))), (q_2, .inr (4, [.int 0, .ref (dI 1000 0), .int 0]))] H := hP
  have hD : va_D A [(a1, .inr (17, [.int 0, .ref a2, .ref a3, .ref a4, .long 0])), (a2, .inl (T 2, 12, .inr (.inr (.inr (.inr (fun _ => none)))))), (q_2, .inr (4, [.int 0, .ref (dI 1000 0), .int 0]))] := hD
  clear hPc hDc hFc hP1 hD1 hk1 hz1 ht hvm
  refine lv_icmp_ge (tgt := 100) hx hb dX12_hullArea_27 (by decide) (fun c_5 => ?_) (fun c_5 => absurd (by decide) c_5)
  refine lv_lload_n hx hb dX12_hullArea_100 rfl (lv_at hl 1 rfl) ?_
  refine lv_l2i (v := 0) hx hb dX12_hullArea_101 (by decide) ?_
  have hP9 := hP.sub (ws' := [(a1, .inr (17, [.int 0, .ref a2, .ref a3, .ref a4, .long 0]))]) [0] rfl
  have hD9 := hD.sub (ws' := [(a1, .inr (17, [.int 0, .ref a2, .ref a3, .ref a4, .long 0]))]) [0] (by decide) rfl
  exact W.iret (v := 0) hx hb hr (fun t ht hW => ⟨⟨_, _, rfl, rfl, ⟨rfl, by rw [ht]; exact hP9, hD9⟩⟩, hS.F ht⟩) hS.2.2 dX12_hullArea_102
set_option maxHeartbeats 4000000 in
set_option maxRecDepth 100000 in
theorem xcX12_hullAt (l : Launch) (hst : l.stackTraces = false) (dC : Nat → ClassId) (dI : Nat → Nat → Nat) (T : Nat → ClassId) (a1 : Nat) (a2 : Nat) (a3 : Nat) (a4 : Nat) (sz : Nat) (p1 : Int32) : Met l yX12_hullAt wsX12_hullAt ({ frames := 5, cells := 1, slots := 3, locals := 99 } : Room) (va_Pc [.ref a1, .int p1] (fun U => xB dC dI T [(a1, .inr (17, [.int 0, .ref a2, .ref a3, .ref a4, .long 0])), (a2, .inl (T 2, 12, .inr (.inr (.inr (.inr (fun _ => none))))))] sz U)) (va_Qi (fun (r u : Int32) => r = u) (fun (u : Int32) (t : State) => 0 = u ∧ xE dC dI [(a1, .inr (17, [.int 1, .ref a2, .ref a3, .ref a4, .long 0]))] (va_A [(a1, .inr (17, [.int 0, .ref a2, .ref a3, .ref a4, .long 0])), (a2, .inl (T 2, 12, .inr (.inr (.inr (.inr (fun _ => none))))))] sz) t) (va_A [(a1, .inr (17, [.int 0, .ref a2, .ref a3, .ref a4, .long 0])), (a2, .inl (T 2, 12, .inr (.inr (.inr (.inr (fun _ => none))))))] sz)) 1 3 (va_A [(a1, .inr (17, [.int 0, .ref a2, .ref a3, .ref a4, .long 0])), (a2, .inl (T 2, 12, .inr (.inr (.inr (.inr (fun _ => none))))))] sz) := by
  refine Met.ofW (cc := cX12_hullAt) (maxL := 3) (ret := (some .int)) (by decide +kernel) rfl ?_
  intro p e s m args below meth c s₁ B hml hv
  obtain ⟨rfl, hsz, hP, hK, hD0, hG⟩ := hv
  have hx := B.exec
  have hb := B.bytes
  have hr := B.returns
  have hts := atoms_spec (ws := wsX12_hullAt) B.pre
  have hown : s.vm.findClass RX12 = some m.cls := findClass_of_methodNamed B.named
  have hlocks := B.notSynchronized
  subst hsz
  have hD := hD0.self (sz := s.heap.size)
  generalize hAe : va_A [(a1, .inr (17, [.int 0, .ref a2, .ref a3, .ref a4, .long 0])), (a2, .inl (T 2, 12, .inr (.inr (.inr (.inr (fun _ => none))))))] s.heap.size = A at hD hG ⊢
  have hA : ∀ q : Nat, s.heap.size ≤ q → A q := fun q h => by rw [← hAe]; exact Or.inr h
  have hS : va_S A s.heap s.heap [] := va_S.rf
  have hl := lv_entry ([.ref a1, .int p1]) (n := 3) (Nat.le_of_ble_eq_true rfl)
  rw [lg_entry_eq]
  generalize (lg_sl ([.ref a1, .int p1]) ++ List.replicate (3 - (lg_sl ([.ref a1, .int p1])).length) Slot.unset).toArray = ls at hl ⊢
  have hl : lv_has ls 3 [(0, .ref a1), (1, .int p1)] := hl
  refine lv_aload_n hx hb dX12_hullAt_0 rfl (lv_at hl 0 rfl) ?_
  refine lv_aload_n hx hb dX12_hullAt_1 rfl (lv_at hl 0 rfl) ?_
  have hPc := hP.sub (ws' := [(a1, .inr (17, [.int 0, .ref a2, .ref a3, .ref a4, .long 0])), (a2, .inl (T 2, 12, .inr (.inr (.inr (.inr (fun _ => none))))))]) [0, 1] rfl
  have hDc := hD.sub (ws' := [(a1, .inr (17, [.int 0, .ref a2, .ref a3, .ref a4, .long 0])), (a2, .inl (T 2, 12, .inr (.inr (.inr (.inr (fun _ => none))))))]) [0, 1] (by decide) rfl
  have hFc := va_free (wc := [(a1, .inr (17, [.int 0, .ref a2, .ref a3, .ref a4, .long 0])), (a2, .inl (T 2, 12, .inr (.inr (.inr (.inr (fun _ => none))))))]) hD hS hA [0, 1] rfl
  refine va_calli (va_runV (As := []) (rest := [.ref a1]) ⟨hx, hb, hml, hown, hts⟩ (xcX12_all l hst dC dI T a1 a2 a3 a4 s.heap.size) (cwV 0 hts gX12_hullAt_X12_all rfl rfl rfl (by decide +kernel) ⟨Nat.le_of_ble_eq_true rfl, Nat.le_of_ble_eq_true rfl⟩) ⟨xBlind, va_recv hK hPc (ci := 17) (q0 := 0) rfl rfl, xCall hK hG hS hPc hDc hFc⟩ rfl rfl hl.1 rfl (lv_room (Nat.le_of_ble_eq_true rfl)) dX12_hullAt_2 ⟨Nat.le_of_ble_eq_true rfl, Nat.le_of_ble_eq_true rfl⟩) hS (fun q _ h => hFc q h) hFc (fun r_9 u t H locs ht hvm hw hB hz1 hk1 hS => ?_)
  subst hw
  rcases hB with ⟨hr_9, hP1, hD1⟩
  rw [ht] at hP1
  subst hr_9
  obtain ⟨hP, hD⟩ := va_join (wr := []) (w1 := [(a1, .inr (17, [.int 0, .ref a2, .ref a3, .ref a4, .long 0])), (a2, .inl (T 2, 12, .inr (.inr (.inr (.inr (fun _ => none))))))]) hP hD [0, 1] [] rfl rfl (by decide) (by decide) hk1 hFc hP1 hD1
  have hP : va_P (dC, dI) vwCl [(a1, .inr (17, [.int 0, .ref a2, .ref a3, .ref a4, .long 0])), (a2, .inl (T 2, 12, .inr (.inr (.inr (.inr (fun _ => none))))))] H := hP
  have hD : va_D A [(a1, .inr (17, [.int 0, .ref a2, .ref a3, .ref a4, .long 0])), (a2, .inl (T 2, 12, .inr (.inr (.inr (.inr (fun _ => none))))))] := hD
  clear hPc hDc hFc hP1 hD1 hk1 hz1 ht hvm
  have hPc := hP.sub (ws' := [(a1, .inr (17, [.int 0, .ref a2, .ref a3, .ref a4, .long 0]))]) [0] rfl
  have hDc := hD.sub (ws' := [(a1, .inr (17, [.int 0, .ref a2, .ref a3, .ref a4, .long 0]))]) [0] (by decide) rfl
  have hFc := va_free (wc := [(a1, .inr (17, [.int 0, .ref a2, .ref a3, .ref a4, .long 0]))]) hD hS hA [0] rfl
  refine va_callr (va_runV (As := [.int 0]) (rest := []) ⟨hx, hb, hml, hown, hts⟩ (xcX12_hull l hst dC dI T a1 a2 a3 a4 H.size) (cwV 1 hts gX12_hullAt_X12_hull rfl rfl rfl (by decide +kernel) ⟨Nat.le_of_ble_eq_true rfl, Nat.le_of_ble_eq_true rfl⟩) ⟨xBlind, va_recv hK hPc (ci := 17) (q0 := 0) rfl rfl, xCall hK hG hS hPc hDc hFc⟩ rfl rfl hl.1 rfl (lv_room (Nat.le_of_ble_eq_true rfl)) dX12_hullAt_5 ⟨Nat.le_of_ble_eq_true rfl, Nat.le_of_ble_eq_true rfl⟩) hS (fun q _ h => hFc q h) hFc (fun u ra t H locs ht hvm hw hB hz1 hk1 hS => ?_)
  rcases hB with ⟨q_2, hr_9, hP1, hD1⟩
  rw [ht] at hP1
  subst hr_9
  obtain ⟨hP, hD⟩ := va_join (wr := [(a2, .inl (T 2, 12, .inr (.inr (.inr (.inr (fun _ => none))))))]) (w1 := [(a1, .inr (17, [.int 0, .ref a2, .ref a3, .ref a4, .long 0])), (q_2, .inr (4, [.int 0, .ref (dI 1000 0), .int 0]))]) hP hD [0] [1] rfl rfl (by decide) (by decide) hk1 hFc hP1 hD1
  have hP := hP.sub (ws' := [(a1, .inr (17, [.int 0, .ref a2, .ref a3, .ref a4, .long 0])), (a2, .inl (T 2, 12, .inr (.inr (.inr (.inr (fun _ => none)))))), (q_2, .inr (4, [.int 0, .ref (dI 1000 0), .int 0]))]) [1, 0, 2] rfl
  have hD := hD.sub (ws' := [(a1, .inr (17, [.int 0, .ref a2, .ref a3, .ref a4, .long 0])), (a2, .inl (T 2, 12, .inr (.inr (.inr (.inr (fun _ => none)))))), (q_2, .inr (4, [.int 0, .ref (dI 1000 0), .int 0]))]) [1, 0, 2] (by decide) rfl
  clear hPc hDc hFc hP1 hD1 hk1 hz1 ht hvm
  refine lv_astore_n (lv' := [(2, .ref q_2), (0, .ref a1), (1, .int p1)]) hx hb dX12_hullAt_8 rfl hl (by decide) rfl (fun ls hl => ?_)
  refine lv_aload_n hx hb dX12_hullAt_9 rfl (lv_at hl 1 rfl) ?_
  refine lv_iload_n hx hb dX12_hullAt_10 rfl (lv_at hl 2 rfl) ?_
  refine lv_i2l hx hb dX12_hullAt_11 rfl ?_
  refine lv_lconst (v := 0) hx hb dX12_hullAt_12 (by decide) ?_
  refine lv_aload_n hx hb dX12_hullAt_13 rfl (lv_at hl 0 rfl) ?_
  have hPc := hP.sub (ws' := [(q_2, .inr (4, [.int 0, .ref (dI 1000 0), .int 0]))]) [2] rfl
  have hDc := hD.sub (ws' := [(q_2, .inr (4, [.int 0, .ref (dI 1000 0), .int 0]))]) [2] (by decide) rfl
  have hFc := va_free (wc := [(q_2, .inr (4, [.int 0, .ref (dI 1000 0), .int 0]))]) hD hS hA [2] rfl
  refine va_callFi (va_runF (As := []) (rest := [.long 0, .long p1.toInt64, .ref a1]) (hK.1 4 _ rfl).2 ⟨hx, hb, hml, hown, hts⟩ (xcJx4a65c_size_8abf5_v2 l hst dC dI T q_2 H.size) (va_cwF 0 hts gX12_hullAt_Jx4a65c_size_8abf5_f56Jx4a65c rfl rfl rfl (hG.2.2.2.2.2.2.1 ((⟨"java/util/List", "size", "()I"⟩ : MethodName), yJx4a65c_size_8abf5) (List.mem_of_getElem? (i := 1) rfl)) (by decide +kernel) ⟨Nat.le_of_ble_eq_true rfl, Nat.le_of_ble_eq_true rfl⟩) ⟨xBlind, va_recv hK hPc (ci := 4) (q0 := 0) rfl rfl, xCall hK hG hS hPc hDc hFc⟩ rfl rfl hl.1 rfl (lv_room (Nat.le_of_ble_eq_true rfl)) dX12_hullAt_14 ⟨Nat.le_of_ble_eq_true rfl, Nat.le_of_ble_eq_true rfl⟩) hS (fun q _ h => hFc q h) hFc (fun r_9 u t H locs ht hvm hw hB hz1 hk1 hS => ?_)
  subst hw
  rcases hB with ⟨hr_9, hP1, hD1⟩
  rw [ht] at hP1
  subst hr_9
  obtain ⟨hP, hD⟩ := va_join (wr := [(a1, .inr (17, [.int 0, .ref a2, .ref a3, .ref a4, .long 0])), (a2, .inl (T 2, 12, .inr (.inr (.inr (.inr (fun _ => none))))))]) (w1 := [(q_2, .inr (4, [.int 0, .ref (dI 1000 0), .int 0]))]) hP hD [2] [0, 1] rfl rfl (by decide) (by decide) hk1 hFc hP1 hD1
  have hP : va_P (dC, dI) vwCl [(a1, .inr (17, [.int 0, .ref a2, .ref a3, .ref a4, .long 0])), (a2, .inl (T 2, 12, .inr (.inr (.inr (.inr (fun _ => none)))))), (q_2, .inr (4, [.int 0, .ref (dI 1000 0), .int 0]))] H := hP
  have hD : va_D A [(a1, .inr (17, [.int 0, .ref a2, .ref a3, .ref a4, .long 0])), (a2, .inl (T 2, 12, .inr (.inr (.inr (.inr (fun _ => none)))))), (q_2, .inr (4, [.int 0, .ref (dI 1000 0), .int 0]))] := hD
  clear hPc hDc hFc hP1 hD1 hk1 hz1 ht hvm
  refine lv_iconst (v := 1) hx hb dX12_hullAt_19 (by decide) ?_
  refine lv_isub hx hb dX12_hullAt_20 ?_
  refine lv_topi (fun f_5 ef_5 => ?_)
  obtain rfl : f_5 = (-1) := ef_5.trans (by decide)
  refine lv_i2l (v := (-1)) hx hb dX12_hullAt_21 (by decide) ?_
  have hPc := hP.sub (ws' := []) [] rfl
  have hDc := hD.sub (ws' := []) [] (by decide) rfl
  have hFc := va_free (wc := []) hD hS hA [] rfl
  refine va_calli (va_runS (As := [.long p1.toInt64, .long 0, .long (-1)]) (rest := [.ref a1]) ⟨hx, hb, hml, hown, hts⟩ (xcX12_isBetween_v4 l hst dC dI T H.size p1.toInt64 (-1)) (cwS 3 hts gX12_hullAt_X12_isBetween rfl rfl rfl (by decide +kernel) ⟨Nat.le_of_ble_eq_true rfl, Nat.le_of_ble_eq_true rfl⟩) ⟨xBlind, xCall hK hG hS hPc hDc hFc⟩ rfl rfl hl.1 rfl (lv_room (Nat.le_of_ble_eq_true rfl)) dX12_hullAt_22 ⟨Nat.le_of_ble_eq_true rfl, Nat.le_of_ble_eq_true rfl⟩) hS (fun q _ h => hFc q h) hFc (fun r_9 u t H locs ht hvm hw hB hz1 hk1 hS => ?_)
  subst hw
  rcases hB with ⟨c_6, hr_9, hP1, hD1⟩ | ⟨c_7, hr_9, hP1, hD1⟩
  · have hz_8 : (p1.toInt64).toInt = p1.toInt := Int32.toInt_toInt64 _
    have hz_9 : ((-1) : Int64).toInt = -1 := by decide +kernel
    rw [ht] at hP1
    subst hr_9
    obtain ⟨hP, hD⟩ := va_join (wr := [(a1, .inr (17, [.int 0, .ref a2, .ref a3, .ref a4, .long 0])), (a2, .inl (T 2, 12, .inr (.inr (.inr (.inr (fun _ => none)))))), (q_2, .inr (4, [.int 0, .ref (dI 1000 0), .int 0]))]) (w1 := []) hP hD [] [0, 1, 2] rfl rfl (by decide) (by decide) hk1 hFc hP1 hD1
    have hP : va_P (dC, dI) vwCl [(a1, .inr (17, [.int 0, .ref a2, .ref a3, .ref a4, .long 0])), (a2, .inl (T 2, 12, .inr (.inr (.inr (.inr (fun _ => none)))))), (q_2, .inr (4, [.int 0, .ref (dI 1000 0), .int 0]))] H := hP
    have hD : va_D A [(a1, .inr (17, [.int 0, .ref a2, .ref a3, .ref a4, .long 0])), (a2, .inl (T 2, 12, .inr (.inr (.inr (.inr (fun _ => none)))))), (q_2, .inr (4, [.int 0, .ref (dI 1000 0), .int 0]))] := hD
    clear hPc hDc hFc hP1 hD1 hk1 hz1 ht hvm
    refine lv_if_eq (tgt := 32) hx hb dX12_hullAt_25 (by decide) (fun c_10 => ?_) (fun c_10 => absurd (by decide) c_10)
    refine lv_iconst (v := 1) hx hb dX12_hullAt_32 (by decide) ?_
    have hPc := hP.sub (ws' := [(a1, .inr (17, [.int 0, .ref a2, .ref a3, .ref a4, .long 0]))]) [0] rfl
    have hDc := hD.sub (ws' := [(a1, .inr (17, [.int 0, .ref a2, .ref a3, .ref a4, .long 0]))]) [0] (by decide) rfl
    have hFc := va_free (wc := [(a1, .inr (17, [.int 0, .ref a2, .ref a3, .ref a4, .long 0]))]) hD hS hA [0] rfl
    refine va_calli (va_runV (As := [.int 1]) (rest := []) ⟨hx, hb, hml, hown, hts⟩ (xcX12_isWrong l hst dC dI T a1 a2 a3 a4 H.size) (cwV 1 hts gX12_hullAt_X12_isWrong rfl rfl rfl (by decide +kernel) ⟨Nat.le_of_ble_eq_true rfl, Nat.le_of_ble_eq_true rfl⟩) ⟨xBlind, va_recv hK hPc (ci := 17) (q0 := 0) rfl rfl, xCall hK hG hS hPc hDc hFc⟩ rfl rfl hl.1 rfl (lv_room (Nat.le_of_ble_eq_true rfl)) dX12_hullAt_33 ⟨Nat.le_of_ble_eq_true rfl, Nat.le_of_ble_eq_true rfl⟩) hS (fun q _ h => hFc q h) hFc (fun r_9 u t H locs ht hvm hw hB hz1 hk1 hS => ?_)
    subst hw
    rcases hB with ⟨hr_9, hP1, hD1⟩
    rw [ht] at hP1
    subst hr_9
    obtain ⟨hP, hD⟩ := va_join (wr := [(a2, .inl (T 2, 12, .inr (.inr (.inr (.inr (fun _ => none)))))), (q_2, .inr (4, [.int 0, .ref (dI 1000 0), .int 0]))]) (w1 := [(a1, .inr (17, [.int 1, .ref a2, .ref a3, .ref a4, .long 0]))]) hP hD [0] [1, 2] rfl rfl (by decide) (by decide) hk1 hFc hP1 hD1
    have hP := hP.sub (ws' := [(a1, .inr (17, [.int 1, .ref a2, .ref a3, .ref a4, .long 0])), (a2, .inl (T 2, 12, .inr (.inr (.inr (.inr (fun _ => none)))))), (q_2, .inr (4, [.int 0, .ref (dI 1000 0), .int 0]))]) [2, 0, 1] rfl
    have hD := hD.sub (ws' := [(a1, .inr (17, [.int 1, .ref a2, .ref a3, .ref a4, .long 0])), (a2, .inl (T 2, 12, .inr (.inr (.inr (.inr (fun _ => none)))))), (q_2, .inr (4, [.int 0, .ref (dI 1000 0), .int 0]))]) [2, 0, 1] (by decide) rfl
    clear hPc hDc hFc hP1 hD1 hk1 hz1 ht hvm
    refine lv_if_eq (tgt := 43) hx hb dX12_hullAt_36 (by decide) (fun c_12 => absurd c_12 (by decide)) (fun c_12 => ?_)
    refine lv_iconst (v := 0) hx hb dX12_hullAt_39 (by decide) ?_
    refine lv_goto (tgt := 56) hx hb dX12_hullAt_40 (by decide) ?_
    have hP9 := hP.sub (ws' := [(a1, .inr (17, [.int 1, .ref a2, .ref a3, .ref a4, .long 0]))]) [0] rfl
    have hD9 := hD.sub (ws' := [(a1, .inr (17, [.int 1, .ref a2, .ref a3, .ref a4, .long 0]))]) [0] (by decide) rfl
    exact W.iret (v := 0) hx hb hr (fun t ht hW => ⟨⟨_, _, rfl, rfl, ⟨rfl, by rw [ht]; exact hP9, hD9⟩⟩, hS.F ht⟩) hS.2.2 dX12_hullAt_56
  · have hz_13 : (p1.toInt64).toInt = p1.toInt := Int32.toInt_toInt64 _
    have hz_14 : ((-1) : Int64).toInt = -1 := by decide +kernel
    exact absurd c_7 (by omega)
set_option maxHeartbeats 4000000 in
set_option maxRecDepth 100000 in
theorem xcX12_inCircle (l : Launch) (hst : l.stackTraces = false) (dC : Nat → ClassId) (dI : Nat → Nat → Nat) (T : Nat → ClassId) (a1 : Nat) (a2 : Nat) (a3 : Nat) (a4 : Nat) (sz : Nat) (p1 : Int32) (p2 : Int32) (p3 : Int32) (p4 : Int32) : Met l yX12_inCircle wsX12_inCircle ({ frames := 2, cells := 0, slots := 0, locals := 46 } : Room) (va_Pc [.ref a1, .int p1, .int p2, .int p3, .int p4] (fun U => xB dC dI T [(a1, .inr (17, [.int 0, .ref a2, .ref a3, .ref a4, .long 0])), (a2, .inl (T 2, 12, .inr (.inr (.inr (.inr (fun _ => none))))))] sz U)) (va_Qi (fun (r u : Int32) => r = u) (fun (u : Int32) (t : State) => 0 = u ∧ xE dC dI [(a1, .inr (17, [.int 1, .ref a2, .ref a3, .ref a4, .long 0]))] (va_A [(a1, .inr (17, [.int 0, .ref a2, .ref a3, .ref a4, .long 0])), (a2, .inl (T 2, 12, .inr (.inr (.inr (.inr (fun _ => none))))))] sz) t) (va_A [(a1, .inr (17, [.int 0, .ref a2, .ref a3, .ref a4, .long 0])), (a2, .inl (T 2, 12, .inr (.inr (.inr (.inr (fun _ => none))))))] sz)) 0 0 (va_A [(a1, .inr (17, [.int 0, .ref a2, .ref a3, .ref a4, .long 0])), (a2, .inl (T 2, 12, .inr (.inr (.inr (.inr (fun _ => none))))))] sz) := by
  refine Met.ofW (cc := cX12_inCircle) (maxL := 5) (ret := (some .int)) (by decide +kernel) rfl ?_
  intro p e s m args below meth c s₁ B hml hv
  obtain ⟨rfl, hsz, hP, hK, hD0, hG⟩ := hv
  have hx := B.exec
  have hb := B.bytes
  have hr := B.returns
  have hts := atoms_spec (ws := wsX12_inCircle) B.pre
  have hown : s.vm.findClass RX12 = some m.cls := findClass_of_methodNamed B.named
  have hlocks := B.notSynchronized
  subst hsz
  have hD := hD0.self (sz := s.heap.size)
  generalize hAe : va_A [(a1, .inr (17, [.int 0, .ref a2, .ref a3, .ref a4, .long 0])), (a2, .inl (T 2, 12, .inr (.inr (.inr (.inr (fun _ => none))))))] s.heap.size = A at hD hG ⊢
  have hA : ∀ q : Nat, s.heap.size ≤ q → A q := fun q h => by rw [← hAe]; exact Or.inr h
  have hS : va_S A s.heap s.heap [] := va_S.rf
  have hl := lv_entry ([.ref a1, .int p1, .int p2, .int p3, .int p4]) (n := 5) (Nat.le_of_ble_eq_true rfl)
  rw [lg_entry_eq]
  generalize (lg_sl ([.ref a1, .int p1, .int p2, .int p3, .int p4]) ++ List.replicate (5 - (lg_sl ([.ref a1, .int p1, .int p2, .int p3, .int p4])).length) Slot.unset).toArray = ls at hl ⊢
  have hl : lv_has ls 5 [(0, .ref a1), (1, .int p1), (2, .int p2), (3, .int p3), (4, .int p4)] := hl
  refine lv_aload_n hx hb dX12_inCircle_0 rfl (lv_at hl 0 rfl) ?_
  refine lv_aload_n hx hb dX12_inCircle_1 rfl (lv_at hl 0 rfl) ?_
  refine lv_iload_n hx hb dX12_inCircle_2 rfl (lv_at hl 1 rfl) ?_
  have hPc := hP.sub (ws' := [(a1, .inr (17, [.int 0, .ref a2, .ref a3, .ref a4, .long 0])), (a2, .inl (T 2, 12, .inr (.inr (.inr (.inr (fun _ => none))))))]) [0, 1] rfl
  have hDc := hD.sub (ws' := [(a1, .inr (17, [.int 0, .ref a2, .ref a3, .ref a4, .long 0])), (a2, .inl (T 2, 12, .inr (.inr (.inr (.inr (fun _ => none))))))]) [0, 1] (by decide) rfl
  have hFc := va_free (wc := [(a1, .inr (17, [.int 0, .ref a2, .ref a3, .ref a4, .long 0])), (a2, .inl (T 2, 12, .inr (.inr (.inr (.inr (fun _ => none))))))]) hD hS hA [0, 1] rfl
  refine va_calli (va_runV (As := [.int p1]) (rest := [.ref a1]) ⟨hx, hb, hml, hown, hts⟩ (xcX12_isThere l hst dC dI T a1 a2 a3 a4 s.heap.size p1) (cwV 1 hts gX12_inCircle_X12_isThere rfl rfl rfl (by decide +kernel) ⟨Nat.le_of_ble_eq_true rfl, Nat.le_of_ble_eq_true rfl⟩) ⟨xBlind, va_recv hK hPc (ci := 17) (q0 := 0) rfl rfl, xCall hK hG hS hPc hDc hFc⟩ rfl rfl hl.1 rfl (lv_room (Nat.le_of_ble_eq_true rfl)) dX12_inCircle_3 ⟨Nat.le_of_ble_eq_true rfl, Nat.le_of_ble_eq_true rfl⟩) hS (fun q _ h => hFc q h) hFc (fun r_9 u t H locs ht hvm hw hB hz1 hk1 hS => ?_)
  subst hw
  rcases hB with ⟨hr_9, hP1, hD1⟩
  rw [ht] at hP1
  subst hr_9
  obtain ⟨hP, hD⟩ := va_join (wr := []) (w1 := [(a1, .inr (17, [.int 0, .ref a2, .ref a3, .ref a4, .long 0])), (a2, .inl (T 2, 12, .inr (.inr (.inr (.inr (fun _ => none))))))]) hP hD [0, 1] [] rfl rfl (by decide) (by decide) hk1 hFc hP1 hD1
  have hP : va_P (dC, dI) vwCl [(a1, .inr (17, [.int 0, .ref a2, .ref a3, .ref a4, .long 0])), (a2, .inl (T 2, 12, .inr (.inr (.inr (.inr (fun _ => none))))))] H := hP
  have hD : va_D A [(a1, .inr (17, [.int 0, .ref a2, .ref a3, .ref a4, .long 0])), (a2, .inl (T 2, 12, .inr (.inr (.inr (.inr (fun _ => none))))))] := hD
  clear hPc hDc hFc hP1 hD1 hk1 hz1 ht hvm
  refine lv_if_eq (tgt := 34) hx hb dX12_inCircle_6 (by decide) (fun c_2 => ?_) (fun c_2 => absurd (by decide) c_2)
  refine lv_iconst (v := 1) hx hb dX12_inCircle_34 (by decide) ?_
  refine lv_goto (tgt := 53) hx hb dX12_inCircle_35 (by decide) ?_
  have hPc := hP.sub (ws' := [(a1, .inr (17, [.int 0, .ref a2, .ref a3, .ref a4, .long 0]))]) [0] rfl
  have hDc := hD.sub (ws' := [(a1, .inr (17, [.int 0, .ref a2, .ref a3, .ref a4, .long 0]))]) [0] (by decide) rfl
  have hFc := va_free (wc := [(a1, .inr (17, [.int 0, .ref a2, .ref a3, .ref a4, .long 0]))]) hD hS hA [0] rfl
  refine va_calli (va_runV (As := [.int 1]) (rest := []) ⟨hx, hb, hml, hown, hts⟩ (xcX12_isWrong l hst dC dI T a1 a2 a3 a4 H.size) (cwV 1 hts gX12_inCircle_X12_isWrong rfl rfl rfl (by decide +kernel) ⟨Nat.le_of_ble_eq_true rfl, Nat.le_of_ble_eq_true rfl⟩) ⟨xBlind, va_recv hK hPc (ci := 17) (q0 := 0) rfl rfl, xCall hK hG hS hPc hDc hFc⟩ rfl rfl hl.1 rfl (lv_room (Nat.le_of_ble_eq_true rfl)) dX12_inCircle_53 ⟨Nat.le_of_ble_eq_true rfl, Nat.le_of_ble_eq_true rfl⟩) hS (fun q _ h => hFc q h) hFc (fun r_9 u t H locs ht hvm hw hB hz1 hk1 hS => ?_)
  subst hw
  rcases hB with ⟨hr_9, hP1, hD1⟩
  rw [ht] at hP1
  subst hr_9
  obtain ⟨hP, hD⟩ := va_join (wr := [(a2, .inl (T 2, 12, .inr (.inr (.inr (.inr (fun _ => none))))))]) (w1 := [(a1, .inr (17, [.int 1, .ref a2, .ref a3, .ref a4, .long 0]))]) hP hD [0] [1] rfl rfl (by decide) (by decide) hk1 hFc hP1 hD1
  have hP := hP.sub (ws' := [(a1, .inr (17, [.int 1, .ref a2, .ref a3, .ref a4, .long 0])), (a2, .inl (T 2, 12, .inr (.inr (.inr (.inr (fun _ => none))))))]) [1, 0] rfl
  have hD := hD.sub (ws' := [(a1, .inr (17, [.int 1, .ref a2, .ref a3, .ref a4, .long 0])), (a2, .inl (T 2, 12, .inr (.inr (.inr (.inr (fun _ => none))))))]) [1, 0] (by decide) rfl
  clear hPc hDc hFc hP1 hD1 hk1 hz1 ht hvm
  refine lv_if_eq (tgt := 61) hx hb dX12_inCircle_56 (by decide) (fun c_4 => absurd c_4 (by decide)) (fun c_4 => ?_)
  refine lv_iconst (v := 0) hx hb dX12_inCircle_59 (by decide) ?_
  have hP9 := hP.sub (ws' := [(a1, .inr (17, [.int 1, .ref a2, .ref a3, .ref a4, .long 0]))]) [0] rfl
  have hD9 := hD.sub (ws' := [(a1, .inr (17, [.int 1, .ref a2, .ref a3, .ref a4, .long 0]))]) [0] (by decide) rfl
  exact W.iret (v := 0) hx hb hr (fun t ht hW => ⟨⟨_, _, rfl, rfl, ⟨rfl, by rw [ht]; exact hP9, hD9⟩⟩, hS.F ht⟩) hS.2.2 dX12_inCircle_60
set_option maxHeartbeats 4000000 in
set_option maxRecDepth 100000 in
theorem xcX12_isJoined (l : Launch) (hst : l.stackTraces = false) (dC : Nat → ClassId) (dI : Nat → Nat → Nat) (T : Nat → ClassId) (a1 : Nat) (a2 : Nat) (a3 : Nat) (a4 : Nat) (sz : Nat) (p1 : Int32) (p2 : Int32) (p3 : Int32) : Met l yX12_isJoined wsX12_isJoined ({ frames := 3, cells := 0, slots := 0, locals := 68 } : Room) (va_Pc [.ref a1, .int p1, .int p2, .int p3] (fun U => xB dC dI T [(a1, .inr (17, [.int 0, .ref a2, .ref a3, .ref a4, .long 0])), (a2, .inl (T 2, 12, .inr (.inr (.inr (.inr (fun _ => none))))))] sz U)) (va_Qi (fun (r u : Int32) => r = u) (fun (u : Int32) (t : State) => 0 = u ∧ xE dC dI [(a1, .inr (17, [.int 1, .ref a2, .ref a3, .ref a4, .long 0]))] (va_A [(a1, .inr (17, [.int 0, .ref a2, .ref a3, .ref a4, .long 0])), (a2, .inl (T 2, 12, .inr (.inr (.inr (.inr (fun _ => none))))))] sz) t) (va_A [(a1, .inr (17, [.int 0, .ref a2, .ref a3, .ref a4, .long 0])), (a2, .inl (T 2, 12, .inr (.inr (.inr (.inr (fun _ => none))))))] sz)) 0 0 (va_A [(a1, .inr (17, [.int 0, .ref a2, .ref a3, .ref a4, .long 0])), (a2, .inl (T 2, 12, .inr (.inr (.inr (.inr (fun _ => none))))))] sz) := by
  refine Met.ofW (cc := cX12_isJoined) (maxL := 4) (ret := (some .boolean)) (by decide +kernel) rfl ?_
  intro p e s m args below meth c s₁ B hml hv
  obtain ⟨rfl, hsz, hP, hK, hD0, hG⟩ := hv
  have hx := B.exec
  have hb := B.bytes
  have hr := B.returns
  have hts := atoms_spec (ws := wsX12_isJoined) B.pre
  have hown : s.vm.findClass RX12 = some m.cls := findClass_of_methodNamed B.named
  have hlocks := B.notSynchronized
  subst hsz
  have hD := hD0.self (sz := s.heap.size)
  generalize hAe : va_A [(a1, .inr (17, [.int 0, .ref a2, .ref a3, .ref a4, .long 0])), (a2, .inl (T 2, 12, .inr (.inr (.inr (.inr (fun _ => none))))))] s.heap.size = A at hD hG ⊢
  have hA : ∀ q : Nat, s.heap.size ≤ q → A q := fun q h => by rw [← hAe]; exact Or.inr h
  have hS : va_S A s.heap s.heap [] := va_S.rf
  have hl := lv_entry ([.ref a1, .int p1, .int p2, .int p3]) (n := 4) (Nat.le_of_ble_eq_true rfl)
  rw [lg_entry_eq]
  generalize (lg_sl ([.ref a1, .int p1, .int p2, .int p3]) ++ List.replicate (4 - (lg_sl ([.ref a1, .int p1, .int p2, .int p3])).length) Slot.unset).toArray = ls at hl ⊢
  have hl : lv_has ls 4 [(0, .ref a1), (1, .int p1), (2, .int p2), (3, .int p3)] := hl
  refine lv_aload_n hx hb dX12_isJoined_0 rfl (lv_at hl 0 rfl) ?_
  refine lv_iload_n hx hb dX12_isJoined_1 rfl (lv_at hl 2 rfl) ?_
  refine lv_iload_n hx hb dX12_isJoined_2 rfl (lv_at hl 3 rfl) ?_
  have hPc := hP.sub (ws' := [(a1, .inr (17, [.int 0, .ref a2, .ref a3, .ref a4, .long 0])), (a2, .inl (T 2, 12, .inr (.inr (.inr (.inr (fun _ => none))))))]) [0, 1] rfl
  have hDc := hD.sub (ws' := [(a1, .inr (17, [.int 0, .ref a2, .ref a3, .ref a4, .long 0])), (a2, .inl (T 2, 12, .inr (.inr (.inr (.inr (fun _ => none))))))]) [0, 1] (by decide) rfl
  have hFc := va_free (wc := [(a1, .inr (17, [.int 0, .ref a2, .ref a3, .ref a4, .long 0])), (a2, .inl (T 2, 12, .inr (.inr (.inr (.inr (fun _ => none))))))]) hD hS hA [0, 1] rfl
  refine va_calli (va_runV (As := [.int p2, .int p3]) (rest := []) ⟨hx, hb, hml, hown, hts⟩ (xcX12_areTwo l hst dC dI T a1 a2 a3 a4 s.heap.size p2 p3) (cwV 2 hts gX12_isJoined_X12_areTwo rfl rfl rfl (by decide +kernel) ⟨Nat.le_of_ble_eq_true rfl, Nat.le_of_ble_eq_true rfl⟩) ⟨xBlind, va_recv hK hPc (ci := 17) (q0 := 0) rfl rfl, xCall hK hG hS hPc hDc hFc⟩ rfl rfl hl.1 rfl (lv_room (Nat.le_of_ble_eq_true rfl)) dX12_isJoined_3 ⟨Nat.le_of_ble_eq_true rfl, Nat.le_of_ble_eq_true rfl⟩) hS (fun q _ h => hFc q h) hFc (fun r_9 u t H locs ht hvm hw hB hz1 hk1 hS => ?_)
  subst hw
  rcases hB with ⟨hr_9, hP1, hD1⟩
  rw [ht] at hP1
  subst hr_9
  obtain ⟨hP, hD⟩ := va_join (wr := []) (w1 := [(a1, .inr (17, [.int 1, .ref a2, .ref a3, .ref a4, .long 0])), (a2, .inl (T 2, 12, .inr (.inr (.inr (.inr (fun _ => none))))))]) hP hD [0, 1] [] rfl rfl (by decide) (by decide) hk1 hFc hP1 hD1
  have hP : va_P (dC, dI) vwCl [(a1, .inr (17, [.int 1, .ref a2, .ref a3, .ref a4, .long 0])), (a2, .inl (T 2, 12, .inr (.inr (.inr (.inr (fun _ => none))))))] H := hP
  have hD : va_D A [(a1, .inr (17, [.int 1, .ref a2, .ref a3, .ref a4, .long 0])), (a2, .inl (T 2, 12, .inr (.inr (.inr (.inr (fun _ => none))))))] := hD
  clear hPc hDc hFc hP1 hD1 hk1 hz1 ht hvm
  refine lv_if_eq (tgt := 51) hx hb dX12_isJoined_6 (by decide) (fun c_2 => ?_) (fun c_2 => absurd (by decide) c_2)
  refine lv_iconst (v := 0) hx hb dX12_isJoined_51 (by decide) ?_
  have hP9 := hP.sub (ws' := [(a1, .inr (17, [.int 1, .ref a2, .ref a3, .ref a4, .long 0]))]) [0] rfl
  have hD9 := hD.sub (ws' := [(a1, .inr (17, [.int 1, .ref a2, .ref a3, .ref a4, .long 0]))]) [0] (by decide) rfl
  exact W.zret (v := 0) hx hb hr (by decide) (fun t ht hW => ⟨⟨_, _, rfl, rfl, ⟨rfl, by rw [ht]; exact hP9, hD9⟩⟩, hS.F ht⟩) hS.2.2 dX12_isJoined_52
set_option maxHeartbeats 4000000 in
set_option maxRecDepth 100000 in
theorem xcX12_isSound (l : Launch) (hst : l.stackTraces = false) (dC : Nat → ClassId) (dI : Nat → Nat → Nat) (T : Nat → ClassId) (a1 : Nat) (a2 : Nat) (a3 : Nat) (a4 : Nat) (sz : Nat) : Met l yX12_isSound wsX12_isSound ({ frames := 0, cells := 0, slots := 0, locals := 0 } : Room) (va_Pc [.ref a1] (fun U => xB dC dI T [(a1, .inr (17, [.int 0, .ref a2, .ref a3, .ref a4, .long 0]))] sz U)) (va_Qi (fun (r u : Int32) => r = u) (fun (u : Int32) (t : State) => 1 = u ∧ xE dC dI [(a1, .inr (17, [.int 0, .ref a2, .ref a3, .ref a4, .long 0]))] (va_A [(a1, .inr (17, [.int 0, .ref a2, .ref a3, .ref a4, .long 0]))] sz) t) (va_A [(a1, .inr (17, [.int 0, .ref a2, .ref a3, .ref a4, .long 0]))] sz)) 0 0 (va_A [(a1, .inr (17, [.int 0, .ref a2, .ref a3, .ref a4, .long 0]))] sz) := by
  refine Met.ofW (cc := cX12_isSound) (maxL := 1) (ret := (some .boolean)) (by decide +kernel) rfl ?_
  intro p e s m args below meth c s₁ B hml hv
  obtain ⟨rfl, hsz, hP, hK, hD0, hG⟩ := hv
  have hx := B.exec
  have hb := B.bytes
  have hr := B.returns
  have hts := atoms_spec (ws := wsX12_isSound) B.pre
  have hown : s.vm.findClass RX12 = some m.cls := findClass_of_methodNamed B.named
  have hlocks := B.notSynchronized
  have hin_X12 : ∀ w ∈ wsX120, w ∈ wsX12_isSound := by decide +kernel
  subst hsz
  have hD := hD0.self (sz := s.heap.size)
  generalize hAe : va_A [(a1, .inr (17, [.int 0, .ref a2, .ref a3, .ref a4, .long 0]))] s.heap.size = A at hD hG ⊢
  have hA : ∀ q : Nat, s.heap.size ≤ q → A q := fun q h => by rw [← hAe]; exact Or.inr h
  have hS : va_S A s.heap s.heap [] := va_S.rf
  have hl := lv_entry ([.ref a1]) (n := 1) (Nat.le_of_ble_eq_true rfl)
  rw [lg_entry_eq]
  generalize (lg_sl ([.ref a1]) ++ List.replicate (1 - (lg_sl ([.ref a1])).length) Slot.unset).toArray = ls at hl ⊢
  have hl : lv_has ls 1 [(0, .ref a1)] := hl
  refine lv_aload_n hx hb dX12_isSound_0 rfl (lv_at hl 0 rfl) ?_
  refine lv_iconst (v := 0) hx hb dX12_isSound_1 (by decide) ?_
  refine va_put (D := (dC, dI)) (ci := 17) (v := .int 0) (ty := .int) (C := RX12) (T := TX12) (N := 5) hx hb hts hin_X12 tyX12 tyX12_ok nmX12 hown hK hP hD hS 0 rfl rfl 0 (by decide) (hts (.fieldLink RX12 25 "NearestwardModel" "thrown" "I") (by decide +kernel)) (fun _ h9 => h9) rfl (by decide +kernel) rfl rfl (Nat.le_of_ble_eq_true rfl) dX12_isSound_2 (fun H locs hP hD hS => ?_)
  have hP : va_P (dC, dI) vwCl [(a1, .inr (17, [.int 0, .ref a2, .ref a3, .ref a4, .long 0]))] H := hP
  have hD : va_D A [(a1, .inr (17, [.int 0, .ref a2, .ref a3, .ref a4, .long 0]))] := hD
  refine lv_iconst (v := 1) hx hb dX12_isSound_5 (by decide) ?_
  have hP9 := hP.sub (ws' := [(a1, .inr (17, [.int 0, .ref a2, .ref a3, .ref a4, .long 0]))]) [0] rfl
  have hD9 := hD.sub (ws' := [(a1, .inr (17, [.int 0, .ref a2, .ref a3, .ref a4, .long 0]))]) [0] (by decide) rfl
  exact W.zret (v := 1) hx hb hr (by decide) (fun t ht hW => ⟨⟨_, _, rfl, rfl, ⟨rfl, by rw [ht]; exact hP9, hD9⟩⟩, hS.F ht⟩) hS.2.2 dX12_isSound_6
set_option maxHeartbeats 4000000 in
set_option maxRecDepth 100000 in
theorem xcX12_areThree (l : Launch) (hst : l.stackTraces = false) (dC : Nat → ClassId) (dI : Nat → Nat → Nat) (T : Nat → ClassId) (a1 : Nat) (a2 : Nat) (a3 : Nat) (a4 : Nat) (sz : Nat) (p1 : Int32) (p2 : Int32) (p3 : Int32) : Met l yX12_areThree wsX12_areThree ({ frames := 2, cells := 0, slots := 0, locals := 46 } : Room) (va_Pc [.ref a1, .int p1, .int p2, .int p3] (fun U => xB dC dI T [(a1, .inr (17, [.int 0, .ref a2, .ref a3, .ref a4, .long 0])), (a2, .inl (T 2, 12, .inr (.inr (.inr (.inr (fun _ => none))))))] sz U)) (va_Qi (fun (r u : Int32) => r = u) (fun (u : Int32) (t : State) => 0 = u ∧ xE dC dI [(a1, .inr (17, [.int 1, .ref a2, .ref a3, .ref a4, .long 0])), (a2, .inl (T 2, 12, .inr (.inr (.inr (.inr (fun _ => none))))))] (va_A [(a1, .inr (17, [.int 0, .ref a2, .ref a3, .ref a4, .long 0])), (a2, .inl (T 2, 12, .inr (.inr (.inr (.inr (fun _ => none))))))] sz) t) (va_A [(a1, .inr (17, [.int 0, .ref a2, .ref a3, .ref a4, .long 0])), (a2, .inl (T 2, 12, .inr (.inr (.inr (.inr (fun _ => none))))))] sz)) 0 0 (va_A [(a1, .inr (17, [.int 0, .ref a2, .ref a3, .ref a4, .long 0])), (a2, .inl (T 2, 12, .inr (.inr (.inr (.inr (fun _ => none))))))] sz) := by
  refine Met.ofW (cc := cX12_areThree) (maxL := 4) (ret := (some .boolean)) (by decide +kernel) rfl ?_
  intro p e s m args below meth c s₁ B hml hv
  obtain ⟨rfl, hsz, hP, hK, hD0, hG⟩ := hv
  have hx := B.exec
  have hb := B.bytes
  have hr := B.returns
  have hts := atoms_spec (ws := wsX12_areThree) B.pre
  have hown : s.vm.findClass RX12 = some m.cls := findClass_of_methodNamed B.named
  have hlocks := B.notSynchronized
  subst hsz
  have hD := hD0.self (sz := s.heap.size)
  generalize hAe : va_A [(a1, .inr (17, [.int 0, .ref a2, .ref a3, .ref a4, .long 0])), (a2, .inl (T 2, 12, .inr (.inr (.inr (.inr (fun _ => none))))))] s.heap.size = A at hD hG ⊢
  have hA : ∀ q : Nat, s.heap.size ≤ q → A q := fun q h => by rw [← hAe]; exact Or.inr h
  have hS : va_S A s.heap s.heap [] := va_S.rf
  have hl := lv_entry ([.ref a1, .int p1, .int p2, .int p3]) (n := 4) (Nat.le_of_ble_eq_true rfl)
  rw [lg_entry_eq]
  generalize (lg_sl ([.ref a1, .int p1, .int p2, .int p3]) ++ List.replicate (4 - (lg_sl ([.ref a1, .int p1, .int p2, .int p3])).length) Slot.unset).toArray = ls at hl ⊢
  have hl : lv_has ls 4 [(0, .ref a1), (1, .int p1), (2, .int p2), (3, .int p3)] := hl
  refine lv_aload_n hx hb dX12_areThree_0 rfl (lv_at hl 0 rfl) ?_
  refine lv_aload_n hx hb dX12_areThree_1 rfl (lv_at hl 0 rfl) ?_
  refine lv_iload_n hx hb dX12_areThree_2 rfl (lv_at hl 1 rfl) ?_
  have hPc := hP.sub (ws' := [(a1, .inr (17, [.int 0, .ref a2, .ref a3, .ref a4, .long 0])), (a2, .inl (T 2, 12, .inr (.inr (.inr (.inr (fun _ => none))))))]) [0, 1] rfl
  have hDc := hD.sub (ws' := [(a1, .inr (17, [.int 0, .ref a2, .ref a3, .ref a4, .long 0])), (a2, .inl (T 2, 12, .inr (.inr (.inr (.inr (fun _ => none))))))]) [0, 1] (by decide) rfl
  have hFc := va_free (wc := [(a1, .inr (17, [.int 0, .ref a2, .ref a3, .ref a4, .long 0])), (a2, .inl (T 2, 12, .inr (.inr (.inr (.inr (fun _ => none))))))]) hD hS hA [0, 1] rfl
  refine va_calli (va_runV (As := [.int p1]) (rest := [.ref a1]) ⟨hx, hb, hml, hown, hts⟩ (xcX12_isThere l hst dC dI T a1 a2 a3 a4 s.heap.size p1) (cwV 1 hts gX12_areThree_X12_isThere rfl rfl rfl (by decide +kernel) ⟨Nat.le_of_ble_eq_true rfl, Nat.le_of_ble_eq_true rfl⟩) ⟨xBlind, va_recv hK hPc (ci := 17) (q0 := 0) rfl rfl, xCall hK hG hS hPc hDc hFc⟩ rfl rfl hl.1 rfl (lv_room (Nat.le_of_ble_eq_true rfl)) dX12_areThree_3 ⟨Nat.le_of_ble_eq_true rfl, Nat.le_of_ble_eq_true rfl⟩) hS (fun q _ h => hFc q h) hFc (fun r_9 u t H locs ht hvm hw hB hz1 hk1 hS => ?_)
  subst hw
  rcases hB with ⟨hr_9, hP1, hD1⟩
  rw [ht] at hP1
  subst hr_9
  obtain ⟨hP, hD⟩ := va_join (wr := []) (w1 := [(a1, .inr (17, [.int 0, .ref a2, .ref a3, .ref a4, .long 0])), (a2, .inl (T 2, 12, .inr (.inr (.inr (.inr (fun _ => none))))))]) hP hD [0, 1] [] rfl rfl (by decide) (by decide) hk1 hFc hP1 hD1
  have hP : va_P (dC, dI) vwCl [(a1, .inr (17, [.int 0, .ref a2, .ref a3, .ref a4, .long 0])), (a2, .inl (T 2, 12, .inr (.inr (.inr (.inr (fun _ => none))))))] H := hP
  have hD : va_D A [(a1, .inr (17, [.int 0, .ref a2, .ref a3, .ref a4, .long 0])), (a2, .inl (T 2, 12, .inr (.inr (.inr (.inr (fun _ => none))))))] := hD
  clear hPc hDc hFc hP1 hD1 hk1 hz1 ht hvm
  refine lv_if_eq (tgt := 29) hx hb dX12_areThree_6 (by decide) (fun c_2 => ?_) (fun c_2 => absurd (by decide) c_2)
  refine lv_iconst (v := 1) hx hb dX12_areThree_29 (by decide) ?_
  have hPc := hP.sub (ws' := [(a1, .inr (17, [.int 0, .ref a2, .ref a3, .ref a4, .long 0]))]) [0] rfl
  have hDc := hD.sub (ws' := [(a1, .inr (17, [.int 0, .ref a2, .ref a3, .ref a4, .long 0]))]) [0] (by decide) rfl
  have hFc := va_free (wc := [(a1, .inr (17, [.int 0, .ref a2, .ref a3, .ref a4, .long 0]))]) hD hS hA [0] rfl
  refine va_calli (va_runV (As := [.int 1]) (rest := []) ⟨hx, hb, hml, hown, hts⟩ (xcX12_isWrong l hst dC dI T a1 a2 a3 a4 H.size) (cwV 1 hts gX12_areThree_X12_isWrong rfl rfl rfl (by decide +kernel) ⟨Nat.le_of_ble_eq_true rfl, Nat.le_of_ble_eq_true rfl⟩) ⟨xBlind, va_recv hK hPc (ci := 17) (q0 := 0) rfl rfl, xCall hK hG hS hPc hDc hFc⟩ rfl rfl hl.1 rfl (lv_room (Nat.le_of_ble_eq_true rfl)) dX12_areThree_30 ⟨Nat.le_of_ble_eq_true rfl, Nat.le_of_ble_eq_true rfl⟩) hS (fun q _ h => hFc q h) hFc (fun r_9 u t H locs ht hvm hw hB hz1 hk1 hS => ?_)
  subst hw
  rcases hB with ⟨hr_9, hP1, hD1⟩
  rw [ht] at hP1
  subst hr_9
  obtain ⟨hP, hD⟩ := va_join (wr := [(a2, .inl (T 2, 12, .inr (.inr (.inr (.inr (fun _ => none))))))]) (w1 := [(a1, .inr (17, [.int 1, .ref a2, .ref a3, .ref a4, .long 0]))]) hP hD [0] [1] rfl rfl (by decide) (by decide) hk1 hFc hP1 hD1
  have hP := hP.sub (ws' := [(a1, .inr (17, [.int 1, .ref a2, .ref a3, .ref a4, .long 0])), (a2, .inl (T 2, 12, .inr (.inr (.inr (.inr (fun _ => none))))))]) [1, 0] rfl
  have hD := hD.sub (ws' := [(a1, .inr (17, [.int 1, .ref a2, .ref a3, .ref a4, .long 0])), (a2, .inl (T 2, 12, .inr (.inr (.inr (.inr (fun _ => none))))))]) [1, 0] (by decide) rfl
  clear hPc hDc hFc hP1 hD1 hk1 hz1 ht hvm
  refine lv_if_ne (tgt := 40) hx hb dX12_areThree_33 (by decide) (fun c_4 => ?_) (fun c_4 => absurd c_4 (by decide))
  refine lv_iconst (v := 0) hx hb dX12_areThree_40 (by decide) ?_
  have hP9 := hP.sub (ws' := [(a1, .inr (17, [.int 1, .ref a2, .ref a3, .ref a4, .long 0])), (a2, .inl (T 2, 12, .inr (.inr (.inr (.inr (fun _ => none))))))]) [0, 1] rfl
  have hD9 := hD.sub (ws' := [(a1, .inr (17, [.int 1, .ref a2, .ref a3, .ref a4, .long 0])), (a2, .inl (T 2, 12, .inr (.inr (.inr (.inr (fun _ => none))))))]) [0, 1] (by decide) rfl
  exact W.zret (v := 0) hx hb hr (by decide) (fun t ht hW => ⟨⟨_, _, rfl, rfl, ⟨rfl, by rw [ht]; exact hP9, hD9⟩⟩, hS.F ht⟩) hS.2.2 dX12_areThree_41
set_option maxHeartbeats 4000000 in
set_option maxRecDepth 100000 in
theorem xcX12_isTriangle (l : Launch) (hst : l.stackTraces = false) (dC : Nat → ClassId) (dI : Nat → Nat → Nat) (T : Nat → ClassId) (a1 : Nat) (a2 : Nat) (a3 : Nat) (a4 : Nat) (sz : Nat) (p1 : Int32) (p2 : Int32) (p3 : Int32) : Met l yX12_isTriangle wsX12_isTriangle ({ frames := 3, cells := 0, slots := 0, locals := 69 } : Room) (va_Pc [.ref a1, .int p1, .int p2, .int p3] (fun U => xB dC dI T [(a1, .inr (17, [.int 0, .ref a2, .ref a3, .ref a4, .long 0])), (a2, .inl (T 2, 12, .inr (.inr (.inr (.inr (fun _ => none))))))] sz U)) (va_Qi (fun (r u : Int32) => r = u) (fun (u : Int32) (t : State) => 0 = u ∧ xE dC dI [(a1, .inr (17, [.int 1, .ref a2, .ref a3, .ref a4, .long 0]))] (va_A [(a1, .inr (17, [.int 0, .ref a2, .ref a3, .ref a4, .long 0])), (a2, .inl (T 2, 12, .inr (.inr (.inr (.inr (fun _ => none))))))] sz) t) (va_A [(a1, .inr (17, [.int 0, .ref a2, .ref a3, .ref a4, .long 0])), (a2, .inl (T 2, 12, .inr (.inr (.inr (.inr (fun _ => none))))))] sz)) 0 0 (va_A [(a1, .inr (17, [.int 0, .ref a2, .ref a3, .ref a4, .long 0])), (a2, .inl (T 2, 12, .inr (.inr (.inr (.inr (fun _ => none))))))] sz) := by
  refine Met.ofW (cc := cX12_isTriangle) (maxL := 4) (ret := (some .boolean)) (by decide +kernel) rfl ?_
  intro p e s m args below meth c s₁ B hml hv
  obtain ⟨rfl, hsz, hP, hK, hD0, hG⟩ := hv
  have hx := B.exec
  have hb := B.bytes
  have hr := B.returns
  have hts := atoms_spec (ws := wsX12_isTriangle) B.pre
  have hown : s.vm.findClass RX12 = some m.cls := findClass_of_methodNamed B.named
  have hlocks := B.notSynchronized
  subst hsz
  have hD := hD0.self (sz := s.heap.size)
  generalize hAe : va_A [(a1, .inr (17, [.int 0, .ref a2, .ref a3, .ref a4, .long 0])), (a2, .inl (T 2, 12, .inr (.inr (.inr (.inr (fun _ => none))))))] s.heap.size = A at hD hG ⊢
  have hA : ∀ q : Nat, s.heap.size ≤ q → A q := fun q h => by rw [← hAe]; exact Or.inr h
  have hS : va_S A s.heap s.heap [] := va_S.rf
  have hl := lv_entry ([.ref a1, .int p1, .int p2, .int p3]) (n := 4) (Nat.le_of_ble_eq_true rfl)
  rw [lg_entry_eq]
  generalize (lg_sl ([.ref a1, .int p1, .int p2, .int p3]) ++ List.replicate (4 - (lg_sl ([.ref a1, .int p1, .int p2, .int p3])).length) Slot.unset).toArray = ls at hl ⊢
  have hl : lv_has ls 4 [(0, .ref a1), (1, .int p1), (2, .int p2), (3, .int p3)] := hl
  refine lv_aload_n hx hb dX12_isTriangle_0 rfl (lv_at hl 0 rfl) ?_
  refine lv_iload_n hx hb dX12_isTriangle_1 rfl (lv_at hl 1 rfl) ?_
  refine lv_iload_n hx hb dX12_isTriangle_2 rfl (lv_at hl 2 rfl) ?_
  refine lv_iload_n hx hb dX12_isTriangle_3 rfl (lv_at hl 3 rfl) ?_
  have hPc := hP.sub (ws' := [(a1, .inr (17, [.int 0, .ref a2, .ref a3, .ref a4, .long 0])), (a2, .inl (T 2, 12, .inr (.inr (.inr (.inr (fun _ => none))))))]) [0, 1] rfl
  have hDc := hD.sub (ws' := [(a1, .inr (17, [.int 0, .ref a2, .ref a3, .ref a4, .long 0])), (a2, .inl (T 2, 12, .inr (.inr (.inr (.inr (fun _ => none))))))]) [0, 1] (by decide) rfl
  have hFc := va_free (wc := [(a1, .inr (17, [.int 0, .ref a2, .ref a3, .ref a4, .long 0])), (a2, .inl (T 2, 12, .inr (.inr (.inr (.inr (fun _ => none))))))]) hD hS hA [0, 1] rfl
  refine va_calli (va_runV (As := [.int p1, .int p2, .int p3]) (rest := []) ⟨hx, hb, hml, hown, hts⟩ (xcX12_areThree l hst dC dI T a1 a2 a3 a4 s.heap.size p1 p2 p3) (cwV 3 hts gX12_isTriangle_X12_areThree rfl rfl rfl (by decide +kernel) ⟨Nat.le_of_ble_eq_true rfl, Nat.le_of_ble_eq_true rfl⟩) ⟨xBlind, va_recv hK hPc (ci := 17) (q0 := 0) rfl rfl, xCall hK hG hS hPc hDc hFc⟩ rfl rfl hl.1 rfl (lv_room (Nat.le_of_ble_eq_true rfl)) dX12_isTriangle_4 ⟨Nat.le_of_ble_eq_true rfl, Nat.le_of_ble_eq_true rfl⟩) hS (fun q _ h => hFc q h) hFc (fun r_9 u t H locs ht hvm hw hB hz1 hk1 hS => ?_)
  subst hw
  rcases hB with ⟨hr_9, hP1, hD1⟩
  rw [ht] at hP1
  subst hr_9
  obtain ⟨hP, hD⟩ := va_join (wr := []) (w1 := [(a1, .inr (17, [.int 1, .ref a2, .ref a3, .ref a4, .long 0])), (a2, .inl (T 2, 12, .inr (.inr (.inr (.inr (fun _ => none))))))]) hP hD [0, 1] [] rfl rfl (by decide) (by decide) hk1 hFc hP1 hD1
  have hP : va_P (dC, dI) vwCl [(a1, .inr (17, [.int 1, .ref a2, .ref a3, .ref a4, .long 0])), (a2, .inl (T 2, 12, .inr (.inr (.inr (.inr (fun _ => none))))))] H := hP
  have hD : va_D A [(a1, .inr (17, [.int 1, .ref a2, .ref a3, .ref a4, .long 0])), (a2, .inl (T 2, 12, .inr (.inr (.inr (.inr (fun _ => none))))))] := hD
  clear hPc hDc hFc hP1 hD1 hk1 hz1 ht hvm
  refine lv_if_eq (tgt := 24) hx hb dX12_isTriangle_7 (by decide) (fun c_2 => ?_) (fun c_2 => absurd (by decide) c_2)
  refine lv_iconst (v := 0) hx hb dX12_isTriangle_24 (by decide) ?_
  have hP9 := hP.sub (ws' := [(a1, .inr (17, [.int 1, .ref a2, .ref a3, .ref a4, .long 0]))]) [0] rfl
  have hD9 := hD.sub (ws' := [(a1, .inr (17, [.int 1, .ref a2, .ref a3, .ref a4, .long 0]))]) [0] (by decide) rfl
  exact W.zret (v := 0) hx hb hr (by decide) (fun t ht hW => ⟨⟨_, _, rfl, rfl, ⟨rfl, by rw [ht]; exact hP9, hD9⟩⟩, hS.F ht⟩) hS.2.2 dX12_isTriangle_25
set_option maxHeartbeats 4000000 in
set_option maxRecDepth 100000 in
theorem xcX12_isBetween_v6 (l : Launch) (hst : l.stackTraces = false) (dC : Nat → ClassId) (dI : Nat → Nat → Nat) (T : Nat → ClassId) (sz : Nat) (p0 : Int64) : Met l yX12_isBetween wsX12_isBetween ({ frames := 0, cells := 0, slots := 0, locals := 0 } : Room) (va_Pc [.long p0, .long 1, .long (-1)] (fun U => xB dC dI T [] sz U)) (va_Qi (fun (r u : Int32) => r = u) (fun (u : Int32) (t : State) => 0 = u ∧ xE dC dI [] (va_A [] sz) t) (va_A [] sz)) 0 0 (va_A [] sz) := by
  refine Met.ofW (cc := cX12_isBetween) (maxL := 6) (ret := (some .boolean)) (by decide +kernel) rfl ?_
  intro p e s m args below meth c s₁ B hml hv
  obtain ⟨rfl, hsz, hP, hK, hD0, hG⟩ := hv
  have hx := B.exec
  have hb := B.bytes
  have hr := B.returns
  have hts := atoms_spec (ws := wsX12_isBetween) B.pre
  have hown : s.vm.findClass RX12 = some m.cls := findClass_of_methodNamed B.named
  have hlocks := B.notSynchronized
  subst hsz
  have hD := hD0.self (sz := s.heap.size)
  generalize hAe : va_A [] s.heap.size = A at hD hG ⊢
  have hA : ∀ q : Nat, s.heap.size ≤ q → A q := fun q h => by rw [← hAe]; exact Or.inr h
  have hS : va_S A s.heap s.heap [] := va_S.rf
  have hl := lv_entry ([.long p0, .long 1, .long (-1)]) (n := 6) (Nat.le_of_ble_eq_true rfl)
  rw [lg_entry_eq]
  generalize (lg_sl ([.long p0, .long 1, .long (-1)]) ++ List.replicate (6 - (lg_sl ([.long p0, .long 1, .long (-1)])).length) Slot.unset).toArray = ls at hl ⊢
  have hl : lv_has ls 6 [(0, .long p0), (2, .long 1), (4, .long (-1))] := hl
  refine lv_lload_n hx hb dX12_isBetween_0 rfl (lv_at hl 1 rfl) ?_
  refine lv_lload_n hx hb dX12_isBetween_1 rfl (lv_at hl 0 rfl) ?_
  refine W.lcmp hx hb dX12_isBetween_2 ?_
  refine lv_if_gt (tgt := 17) hx hb dX12_isBetween_3 (by decide) (fun c_1 => ?_) (fun c_1 => ?_)
  · have nc_1 : p0.toInt < 1 := (xl_gt rfl (by decide +kernel)).mp c_1
    refine lv_iconst (v := 0) hx hb dX12_isBetween_17 (by decide) ?_
    have hP9 := hP.sub (ws' := []) [] rfl
    have hD9 := hD.sub (ws' := []) [] (by decide) rfl
    exact W.zret (v := 0) hx hb hr (by decide) (fun t ht hW => ⟨⟨_, _, rfl, rfl, ⟨rfl, by rw [ht]; exact hP9, hD9⟩⟩, hS.F ht⟩) hS.2.2 dX12_isBetween_18
  · have nc_1 : ¬ (p0.toInt < 1) := mt (xl_gt rfl (by decide +kernel)).mpr c_1
    refine lv_lload_n hx hb dX12_isBetween_6 rfl (lv_at hl 0 rfl) ?_
    refine lv_lload hx hb dX12_isBetween_7 (lv_at hl 2 rfl) ?_
    refine W.lcmp hx hb dX12_isBetween_9 ?_
    refine lv_if_gt (tgt := 17) hx hb dX12_isBetween_10 (by decide) (fun _ => ?_) (fun c_2 => absurd (show ¬ (-1 < p0.toInt) from mt (xl_gt (by decide +kernel) rfl).mpr c_2) (by omega))
    refine lv_iconst (v := 0) hx hb dX12_isBetween_17 (by decide) ?_
    have hP9 := hP.sub (ws' := []) [] rfl
    have hD9 := hD.sub (ws' := []) [] (by decide) rfl
    exact W.zret (v := 0) hx hb hr (by decide) (fun t ht hW => ⟨⟨_, _, rfl, rfl, ⟨rfl, by rw [ht]; exact hP9, hD9⟩⟩, hS.F ht⟩) hS.2.2 dX12_isBetween_18
set_option maxHeartbeats 4000000 in
set_option maxRecDepth 100000 in
theorem xcX12_isNoCut (l : Launch) (hst : l.stackTraces = false) (dC : Nat → ClassId) (dI : Nat → Nat → Nat) (T : Nat → ClassId) (a1 : Nat) (a2 : Nat) (a3 : Nat) (a4 : Nat) (sz : Nat) (p1 : Int32) (p2 : Int32) : Met l yX12_isNoCut wsX12_isNoCut ({ frames := 1, cells := 0, slots := 0, locals := 25 } : Room) (va_Pc [.ref a1, .int p1, .int p2, .int (-1)] (fun U => xB dC dI T [(a1, .inr (17, [.int 0, .ref a2, .ref a3, .ref a4, .long 0]))] sz U)) (va_Qi (fun (r u : Int32) => r = u) (fun (u : Int32) (t : State) => 1 = u ∧ xE dC dI [(a1, .inr (17, [.int 0, .ref a2, .ref a3, .ref a4, .long 0]))] (va_A [(a1, .inr (17, [.int 0, .ref a2, .ref a3, .ref a4, .long 0]))] sz) t) (va_A [(a1, .inr (17, [.int 0, .ref a2, .ref a3, .ref a4, .long 0]))] sz)) 0 0 (va_A [(a1, .inr (17, [.int 0, .ref a2, .ref a3, .ref a4, .long 0]))] sz) := by
  refine Met.ofW (cc := cX12_isNoCut) (maxL := 4) (ret := (some .boolean)) (by decide +kernel) rfl ?_
  intro p e s m args below meth c s₁ B hml hv
  obtain ⟨rfl, hsz, hP, hK, hD0, hG⟩ := hv
  have hx := B.exec
  have hb := B.bytes
  have hr := B.returns
  have hts := atoms_spec (ws := wsX12_isNoCut) B.pre
  have hown : s.vm.findClass RX12 = some m.cls := findClass_of_methodNamed B.named
  have hlocks := B.notSynchronized
  subst hsz
  have hD := hD0.self (sz := s.heap.size)
  generalize hAe : va_A [(a1, .inr (17, [.int 0, .ref a2, .ref a3, .ref a4, .long 0]))] s.heap.size = A at hD hG ⊢
  have hA : ∀ q : Nat, s.heap.size ≤ q → A q := fun q h => by rw [← hAe]; exact Or.inr h
  have hS : va_S A s.heap s.heap [] := va_S.rf
  have hl := lv_entry ([.ref a1, .int p1, .int p2, .int (-1)]) (n := 4) (Nat.le_of_ble_eq_true rfl)
  rw [lg_entry_eq]
  generalize (lg_sl ([.ref a1, .int p1, .int p2, .int (-1)]) ++ List.replicate (4 - (lg_sl ([.ref a1, .int p1, .int p2, .int (-1)])).length) Slot.unset).toArray = ls at hl ⊢
  have hl : lv_has ls 4 [(0, .ref a1), (1, .int p1), (2, .int p2), (3, .int (-1))] := hl
  refine lv_iload_n hx hb dX12_isNoCut_0 rfl (lv_at hl 1 rfl) ?_
  refine lv_bipush (v := 97) hx hb dX12_isNoCut_1 (by decide) ?_
  refine lv_icmp_eq (tgt := 12) hx hb dX12_isNoCut_3 (by decide) (fun c_1 => ?_) (fun c_1 => ?_)
  · have nc_1 : p1.toInt = 97 := (xi_eq rfl (by decide +kernel)).mp c_1
    refine lv_iload_n hx hb dX12_isNoCut_12 rfl (lv_at hl 2 rfl) ?_
    refine lv_i2l hx hb dX12_isNoCut_13 rfl ?_
    refine lv_lconst (v := 1) hx hb dX12_isNoCut_14 (by decide) ?_
    refine lv_iload_n hx hb dX12_isNoCut_15 rfl (lv_at hl 3 rfl) ?_
    refine lv_i2l (v := (-1)) hx hb dX12_isNoCut_16 (by decide) ?_
    have hPc := hP.sub (ws' := []) [] rfl
    have hDc := hD.sub (ws' := []) [] (by decide) rfl
    have hFc := va_free (wc := []) hD hS hA [] rfl
    refine va_calli (va_runS (As := [.long p2.toInt64, .long 1, .long (-1)]) (rest := []) ⟨hx, hb, hml, hown, hts⟩ (xcX12_isBetween_v6 l hst dC dI T s.heap.size p2.toInt64) (cwS 3 hts gX12_isNoCut_X12_isBetween rfl rfl rfl (by decide +kernel) ⟨Nat.le_of_ble_eq_true rfl, Nat.le_of_ble_eq_true rfl⟩) ⟨xBlind, xCall hK hG hS hPc hDc hFc⟩ rfl rfl hl.1 rfl (lv_room (Nat.le_of_ble_eq_true rfl)) dX12_isNoCut_17 ⟨Nat.le_of_ble_eq_true rfl, Nat.le_of_ble_eq_true rfl⟩) hS (fun q _ h => hFc q h) hFc (fun r_9 u t H locs ht hvm hw hB hz1 hk1 hS => ?_)
    subst hw
    rcases hB with ⟨hr_9, hP1, hD1⟩
    rw [ht] at hP1
    subst hr_9
    obtain ⟨hP, hD⟩ := va_join (wr := [(a1, .inr (17, [.int 0, .ref a2, .ref a3, .ref a4, .long 0]))]) (w1 := []) hP hD [] [0] rfl rfl (by decide) (by decide) hk1 hFc hP1 hD1
    have hP : va_P (dC, dI) vwCl [(a1, .inr (17, [.int 0, .ref a2, .ref a3, .ref a4, .long 0]))] H := hP
    have hD : va_D A [(a1, .inr (17, [.int 0, .ref a2, .ref a3, .ref a4, .long 0]))] := hD
    clear hPc hDc hFc hP1 hD1 hk1 hz1 ht hvm
    refine lv_if_ne (tgt := 27) hx hb dX12_isNoCut_20 (by decide) (fun c_3 => absurd c_3 (by decide)) (fun c_3 => ?_)
    refine lv_iconst (v := 1) hx hb dX12_isNoCut_23 (by decide) ?_
    refine lv_goto (tgt := 28) hx hb dX12_isNoCut_24 (by decide) ?_
    have hP9 := hP.sub (ws' := [(a1, .inr (17, [.int 0, .ref a2, .ref a3, .ref a4, .long 0]))]) [0] rfl
    have hD9 := hD.sub (ws' := [(a1, .inr (17, [.int 0, .ref a2, .ref a3, .ref a4, .long 0]))]) [0] (by decide) rfl
    exact W.zret (v := 1) hx hb hr (by decide) (fun t ht hW => ⟨⟨_, _, rfl, rfl, ⟨rfl, by rw [ht]; exact hP9, hD9⟩⟩, hS.F ht⟩) hS.2.2 dX12_isNoCut_28
  · have nc_1 : ¬ (p1.toInt = 97) := mt (xi_eq rfl (by decide +kernel)).mpr c_1
    refine lv_iload_n hx hb dX12_isNoCut_6 rfl (lv_at hl 1 rfl) ?_
    refine lv_bipush (v := 122) hx hb dX12_isNoCut_7 (by decide) ?_
    refine lv_icmp_ne (tgt := 23) hx hb dX12_isNoCut_9 (by decide) (fun c_4 => ?_) (fun c_4 => ?_)
    · have nc_4 : ¬ (p1.toInt = 122) := mt (xi_eq rfl (by decide +kernel)).mpr c_4
      refine lv_iconst (v := 1) hx hb dX12_isNoCut_23 (by decide) ?_
      refine lv_goto (tgt := 28) hx hb dX12_isNoCut_24 (by decide) ?_
      have hP9 := hP.sub (ws' := [(a1, .inr (17, [.int 0, .ref a2, .ref a3, .ref a4, .long 0]))]) [0] rfl
      have hD9 := hD.sub (ws' := [(a1, .inr (17, [.int 0, .ref a2, .ref a3, .ref a4, .long 0]))]) [0] (by decide) rfl
      exact W.zret (v := 1) hx hb hr (by decide) (fun t ht hW => ⟨⟨_, _, rfl, rfl, ⟨rfl, by rw [ht]; exact hP9, hD9⟩⟩, hS.F ht⟩) hS.2.2 dX12_isNoCut_28
    · have nc_4 : p1.toInt = 122 := (xi_eq rfl (by decide +kernel)).mp c_4
      refine lv_iload_n hx hb dX12_isNoCut_12 rfl (lv_at hl 2 rfl) ?_
      refine lv_i2l hx hb dX12_isNoCut_13 rfl ?_
      refine lv_lconst (v := 1) hx hb dX12_isNoCut_14 (by decide) ?_
      refine lv_iload_n hx hb dX12_isNoCut_15 rfl (lv_at hl 3 rfl) ?_
      refine lv_i2l (v := (-1)) hx hb dX12_isNoCut_16 (by decide) ?_
      have hPc := hP.sub (ws' := []) [] rfl
      have hDc := hD.sub (ws' := []) [] (by decide) rfl
      have hFc := va_free (wc := []) hD hS hA [] rfl
      refine va_calli (va_runS (As := [.long p2.toInt64, .long 1, .long (-1)]) (rest := []) ⟨hx, hb, hml, hown, hts⟩ (xcX12_isBetween_v6 l hst dC dI T s.heap.size p2.toInt64) (cwS 3 hts gX12_isNoCut_X12_isBetween rfl rfl rfl (by decide +kernel) ⟨Nat.le_of_ble_eq_true rfl, Nat.le_of_ble_eq_true rfl⟩) ⟨xBlind, xCall hK hG hS hPc hDc hFc⟩ rfl rfl hl.1 rfl (lv_room (Nat.le_of_ble_eq_true rfl)) dX12_isNoCut_17 ⟨Nat.le_of_ble_eq_true rfl, Nat.le_of_ble_eq_true rfl⟩) hS (fun q _ h => hFc q h) hFc (fun r_9 u t H locs ht hvm hw hB hz1 hk1 hS => ?_)
      subst hw
      rcases hB with ⟨hr_9, hP1, hD1⟩
      rw [ht] at hP1
      subst hr_9
      obtain ⟨hP, hD⟩ := va_join (wr := [(a1, .inr (17, [.int 0, .ref a2, .ref a3, .ref a4, .long 0]))]) (w1 := []) hP hD [] [0] rfl rfl (by decide) (by decide) hk1 hFc hP1 hD1
      have hP : va_P (dC, dI) vwCl [(a1, .inr (17, [.int 0, .ref a2, .ref a3, .ref a4, .long 0]))] H := hP
      have hD : va_D A [(a1, .inr (17, [.int 0, .ref a2, .ref a3, .ref a4, .long 0]))] := hD
      clear hPc hDc hFc hP1 hD1 hk1 hz1 ht hvm
      refine lv_if_ne (tgt := 27) hx hb dX12_isNoCut_20 (by decide) (fun c_6 => absurd c_6 (by decide)) (fun c_6 => ?_)
      refine lv_iconst (v := 1) hx hb dX12_isNoCut_23 (by decide) ?_
      refine lv_goto (tgt := 28) hx hb dX12_isNoCut_24 (by decide) ?_
      have hP9 := hP.sub (ws' := [(a1, .inr (17, [.int 0, .ref a2, .ref a3, .ref a4, .long 0]))]) [0] rfl
      have hD9 := hD.sub (ws' := [(a1, .inr (17, [.int 0, .ref a2, .ref a3, .ref a4, .long 0]))]) [0] (by decide) rfl
      exact W.zret (v := 1) hx hb hr (by decide) (fun t ht hW => ⟨⟨_, _, rfl, rfl, ⟨rfl, by rw [ht]; exact hP9, hD9⟩⟩, hS.F ht⟩) hS.2.2 dX12_isNoCut_28
set_option maxHeartbeats 4000000 in
set_option maxRecDepth 100000 in
theorem xcX12_joinedAt (l : Launch) (hst : l.stackTraces = false) (dC : Nat → ClassId) (dI : Nat → Nat → Nat) (T : Nat → ClassId) (a1 : Nat) (a2 : Nat) (a3 : Nat) (a4 : Nat) (sz : Nat) (p1 : Int32) (p2 : Int32) : Met l yX12_joinedAt wsX12_joinedAt ({ frames := 2, cells := 0, slots := 0, locals := 48 } : Room) (va_Pc [.ref a1, .int p1, .int p2] (fun U => xB dC dI T [(a1, .inr (17, [.int 0, .ref a2, .ref a3, .ref a4, .long 0])), (a2, .inl (T 2, 12, .inr (.inr (.inr (.inr (fun _ => none))))))] sz U)) (va_Qi (fun (r u : Int32) => r = u) (fun (u : Int32) (t : State) => 0 = u ∧ xE dC dI [(a1, .inr (17, [.int 1, .ref a2, .ref a3, .ref a4, .long 0]))] (va_A [(a1, .inr (17, [.int 0, .ref a2, .ref a3, .ref a4, .long 0])), (a2, .inl (T 2, 12, .inr (.inr (.inr (.inr (fun _ => none))))))] sz) t) (va_A [(a1, .inr (17, [.int 0, .ref a2, .ref a3, .ref a4, .long 0])), (a2, .inl (T 2, 12, .inr (.inr (.inr (.inr (fun _ => none))))))] sz)) 0 0 (va_A [(a1, .inr (17, [.int 0, .ref a2, .ref a3, .ref a4, .long 0])), (a2, .inl (T 2, 12, .inr (.inr (.inr (.inr (fun _ => none))))))] sz) := by
  refine Met.ofW (cc := cX12_joinedAt) (maxL := 3) (ret := (some .int)) (by decide +kernel) rfl ?_
  intro p e s m args below meth c s₁ B hml hv
  obtain ⟨rfl, hsz, hP, hK, hD0, hG⟩ := hv
  have hx := B.exec
  have hb := B.bytes
  have hr := B.returns
  have hts := atoms_spec (ws := wsX12_joinedAt) B.pre
  have hown : s.vm.findClass RX12 = some m.cls := findClass_of_methodNamed B.named
  have hlocks := B.notSynchronized
  subst hsz
  have hD := hD0.self (sz := s.heap.size)
  generalize hAe : va_A [(a1, .inr (17, [.int 0, .ref a2, .ref a3, .ref a4, .long 0])), (a2, .inl (T 2, 12, .inr (.inr (.inr (.inr (fun _ => none))))))] s.heap.size = A at hD hG ⊢
  have hA : ∀ q : Nat, s.heap.size ≤ q → A q := fun q h => by rw [← hAe]; exact Or.inr h
  have hS : va_S A s.heap s.heap [] := va_S.rf
  have hl := lv_entry ([.ref a1, .int p1, .int p2]) (n := 3) (Nat.le_of_ble_eq_true rfl)
  rw [lg_entry_eq]
  generalize (lg_sl ([.ref a1, .int p1, .int p2]) ++ List.replicate (3 - (lg_sl ([.ref a1, .int p1, .int p2])).length) Slot.unset).toArray = ls at hl ⊢
  have hl : lv_has ls 3 [(0, .ref a1), (1, .int p1), (2, .int p2)] := hl
  refine lv_aload_n hx hb dX12_joinedAt_0 rfl (lv_at hl 0 rfl) ?_
  refine lv_aload_n hx hb dX12_joinedAt_1 rfl (lv_at hl 0 rfl) ?_
  refine lv_iload_n hx hb dX12_joinedAt_2 rfl (lv_at hl 1 rfl) ?_
  refine lv_iload_n hx hb dX12_joinedAt_3 rfl (lv_at hl 2 rfl) ?_
  refine lv_aload_n hx hb dX12_joinedAt_4 rfl (lv_at hl 0 rfl) ?_
  have hPc := hP.sub (ws' := [(a1, .inr (17, [.int 0, .ref a2, .ref a3, .ref a4, .long 0])), (a2, .inl (T 2, 12, .inr (.inr (.inr (.inr (fun _ => none))))))]) [0, 1] rfl
  have hDc := hD.sub (ws' := [(a1, .inr (17, [.int 0, .ref a2, .ref a3, .ref a4, .long 0])), (a2, .inl (T 2, 12, .inr (.inr (.inr (.inr (fun _ => none))))))]) [0, 1] (by decide) rfl
  have hFc := va_free (wc := [(a1, .inr (17, [.int 0, .ref a2, .ref a3, .ref a4, .long 0])), (a2, .inl (T 2, 12, .inr (.inr (.inr (.inr (fun _ => none))))))]) hD hS hA [0, 1] rfl
  refine va_calli (va_runV (As := []) (rest := [.int p2, .int p1, .ref a1, .ref a1]) ⟨hx, hb, hml, hown, hts⟩ (xcX12_many l hst dC dI T a1 a2 a3 a4 s.heap.size) (cwV 0 hts gX12_joinedAt_X12_many rfl rfl rfl (by decide +kernel) ⟨Nat.le_of_ble_eq_true rfl, Nat.le_of_ble_eq_true rfl⟩) ⟨xBlind, va_recv hK hPc (ci := 17) (q0 := 0) rfl rfl, xCall hK hG hS hPc hDc hFc⟩ rfl rfl hl.1 rfl (lv_room (Nat.le_of_ble_eq_true rfl)) dX12_joinedAt_5 ⟨Nat.le_of_ble_eq_true rfl, Nat.le_of_ble_eq_true rfl⟩) hS (fun q _ h => hFc q h) hFc (fun r_9 u t H locs ht hvm hw hB hz1 hk1 hS => ?_)
  subst hw
  rcases hB with ⟨hr_9, hP1, hD1⟩
  rw [ht] at hP1
  subst hr_9
  obtain ⟨hP, hD⟩ := va_join (wr := []) (w1 := [(a1, .inr (17, [.int 0, .ref a2, .ref a3, .ref a4, .long 0])), (a2, .inl (T 2, 12, .inr (.inr (.inr (.inr (fun _ => none))))))]) hP hD [0, 1] [] rfl rfl (by decide) (by decide) hk1 hFc hP1 hD1
  have hP : va_P (dC, dI) vwCl [(a1, .inr (17, [.int 0, .ref a2, .ref a3, .ref a4, .long 0])), (a2, .inl (T 2, 12, .inr (.inr (.inr (.inr (fun _ => none))))))] H := hP
  have hD : va_D A [(a1, .inr (17, [.int 0, .ref a2, .ref a3, .ref a4, .long 0])), (a2, .inl (T 2, 12, .inr (.inr (.inr (.inr (fun _ => none))))))] := hD
  clear hPc hDc hFc hP1 hD1 hk1 hz1 ht hvm
  refine lv_iconst (v := 1) hx hb dX12_joinedAt_8 (by decide) ?_
  refine lv_isub hx hb dX12_joinedAt_9 ?_
  refine lv_topi (fun f_2 ef_2 => ?_)
  obtain rfl : f_2 = (-1) := ef_2.trans (by decide)
  have hPc := hP.sub (ws' := [(a1, .inr (17, [.int 0, .ref a2, .ref a3, .ref a4, .long 0]))]) [0] rfl
  have hDc := hD.sub (ws' := [(a1, .inr (17, [.int 0, .ref a2, .ref a3, .ref a4, .long 0]))]) [0] (by decide) rfl
  have hFc := va_free (wc := [(a1, .inr (17, [.int 0, .ref a2, .ref a3, .ref a4, .long 0]))]) hD hS hA [0] rfl
  refine va_calli (va_runV (As := [.int p1, .int p2, .int (-1)]) (rest := [.ref a1]) ⟨hx, hb, hml, hown, hts⟩ (xcX12_isNoCut l hst dC dI T a1 a2 a3 a4 H.size p1 p2) (cwV 3 hts gX12_joinedAt_X12_isNoCut rfl rfl rfl (by decide +kernel) ⟨Nat.le_of_ble_eq_true rfl, Nat.le_of_ble_eq_true rfl⟩) ⟨xBlind, va_recv hK hPc (ci := 17) (q0 := 0) rfl rfl, xCall hK hG hS hPc hDc hFc⟩ rfl rfl hl.1 rfl (lv_room (Nat.le_of_ble_eq_true rfl)) dX12_joinedAt_10 ⟨Nat.le_of_ble_eq_true rfl, Nat.le_of_ble_eq_true rfl⟩) hS (fun q _ h => hFc q h) hFc (fun r_9 u t H locs ht hvm hw hB hz1 hk1 hS => ?_)
  subst hw
  rcases hB with ⟨hr_9, hP1, hD1⟩
  rw [ht] at hP1
  subst hr_9
  obtain ⟨hP, hD⟩ := va_join (wr := [(a2, .inl (T 2, 12, .inr (.inr (.inr (.inr (fun _ => none))))))]) (w1 := [(a1, .inr (17, [.int 0, .ref a2, .ref a3, .ref a4, .long 0]))]) hP hD [0] [1] rfl rfl (by decide) (by decide) hk1 hFc hP1 hD1
  have hP := hP.sub (ws' := [(a1, .inr (17, [.int 0, .ref a2, .ref a3, .ref a4, .long 0])), (a2, .inl (T 2, 12, .inr (.inr (.inr (.inr (fun _ => none))))))]) [1, 0] rfl
  have hD := hD.sub (ws' := [(a1, .inr (17, [.int 0, .ref a2, .ref a3, .ref a4, .long 0])), (a2, .inl (T 2, 12, .inr (.inr (.inr (.inr (fun _ => none))))))]) [1, 0] (by decide) rfl
  clear hPc hDc hFc hP1 hD1 hk1 hz1 ht hvm
  refine lv_if_eq (tgt := 20) hx hb dX12_joinedAt_13 (by decide) (fun c_4 => absurd c_4 (by decide)) (fun c_4 => ?_)
  refine lv_iconst (v := 1) hx hb dX12_joinedAt_16 (by decide) ?_
  refine lv_goto (tgt := 21) hx hb dX12_joinedAt_17 (by decide) ?_
  have hPc := hP.sub (ws' := [(a1, .inr (17, [.int 0, .ref a2, .ref a3, .ref a4, .long 0]))]) [0] rfl
  have hDc := hD.sub (ws' := [(a1, .inr (17, [.int 0, .ref a2, .ref a3, .ref a4, .long 0]))]) [0] (by decide) rfl
  have hFc := va_free (wc := [(a1, .inr (17, [.int 0, .ref a2, .ref a3, .ref a4, .long 0]))]) hD hS hA [0] rfl
  refine va_calli (va_runV (As := [.int 1]) (rest := []) ⟨hx, hb, hml, hown, hts⟩ (xcX12_isWrong l hst dC dI T a1 a2 a3 a4 H.size) (cwV 1 hts gX12_joinedAt_X12_isWrong rfl rfl rfl (by decide +kernel) ⟨Nat.le_of_ble_eq_true rfl, Nat.le_of_ble_eq_true rfl⟩) ⟨xBlind, va_recv hK hPc (ci := 17) (q0 := 0) rfl rfl, xCall hK hG hS hPc hDc hFc⟩ rfl rfl hl.1 rfl (lv_room (Nat.le_of_ble_eq_true rfl)) dX12_joinedAt_21 ⟨Nat.le_of_ble_eq_true rfl, Nat.le_of_ble_eq_true rfl⟩) hS (fun q _ h => hFc q h) hFc (fun r_9 u t H locs ht hvm hw hB hz1 hk1 hS => ?_)
  subst hw
  rcases hB with ⟨hr_9, hP1, hD1⟩
  rw [ht] at hP1
  subst hr_9
  obtain ⟨hP, hD⟩ := va_join (wr := [(a2, .inl (T 2, 12, .inr (.inr (.inr (.inr (fun _ => none))))))]) (w1 := [(a1, .inr (17, [.int 1, .ref a2, .ref a3, .ref a4, .long 0]))]) hP hD [0] [1] rfl rfl (by decide) (by decide) hk1 hFc hP1 hD1
  have hP := hP.sub (ws' := [(a1, .inr (17, [.int 1, .ref a2, .ref a3, .ref a4, .long 0])), (a2, .inl (T 2, 12, .inr (.inr (.inr (.inr (fun _ => none))))))]) [1, 0] rfl
  have hD := hD.sub (ws' := [(a1, .inr (17, [.int 1, .ref a2, .ref a3, .ref a4, .long 0])), (a2, .inl (T 2, 12, .inr (.inr (.inr (.inr (fun _ => none))))))]) [1, 0] (by decide) rfl
  clear hPc hDc hFc hP1 hD1 hk1 hz1 ht hvm
  refine lv_if_eq (tgt := 29) hx hb dX12_joinedAt_24 (by decide) (fun c_6 => absurd c_6 (by decide)) (fun c_6 => ?_)
  refine lv_iconst (v := 0) hx hb dX12_joinedAt_27 (by decide) ?_
  have hP9 := hP.sub (ws' := [(a1, .inr (17, [.int 1, .ref a2, .ref a3, .ref a4, .long 0]))]) [0] rfl
  have hD9 := hD.sub (ws' := [(a1, .inr (17, [.int 1, .ref a2, .ref a3, .ref a4, .long 0]))]) [0] (by decide) rfl
  exact W.iret (v := 0) hx hb hr (fun t ht hW => ⟨⟨_, _, rfl, rfl, ⟨rfl, by rw [ht]; exact hP9, hD9⟩⟩, hS.F ht⟩) hS.2.2 dX12_joinedAt_28
set_option maxHeartbeats 4000000 in
set_option maxRecDepth 100000 in
theorem xcX12_layer (l : Launch) (hst : l.stackTraces = false) (dC : Nat → ClassId) (dI : Nat → Nat → Nat) (T : Nat → ClassId) (a1 : Nat) (a2 : Nat) (a3 : Nat) (a4 : Nat) (sz : Nat) (p1 : Int32) : Met l yX12_layer wsX12_layer ({ frames := 3, cells := 0, slots := 0, locals := 67 } : Room) (va_Pc [.ref a1, .int p1] (fun U => xB dC dI T [(a1, .inr (17, [.int 0, .ref a2, .ref a3, .ref a4, .long 0])), (a2, .inl (T 2, 12, .inr (.inr (.inr (.inr (fun _ => none))))))] sz U)) (va_Qi (fun (r u : Int32) => r = u) (fun (u : Int32) (t : State) => 0 = u ∧ xE dC dI [(a1, .inr (17, [.int 1, .ref a2, .ref a3, .ref a4, .long 0]))] (va_A [(a1, .inr (17, [.int 0, .ref a2, .ref a3, .ref a4, .long 0])), (a2, .inl (T 2, 12, .inr (.inr (.inr (.inr (fun _ => none))))))] sz) t) (va_A [(a1, .inr (17, [.int 0, .ref a2, .ref a3, .ref a4, .long 0])), (a2, .inl (T 2, 12, .inr (.inr (.inr (.inr (fun _ => none))))))] sz)) 0 0 (va_A [(a1, .inr (17, [.int 0, .ref a2, .ref a3, .ref a4, .long 0])), (a2, .inl (T 2, 12, .inr (.inr (.inr (.inr (fun _ => none))))))] sz) := by
  refine Met.ofW (cc := cX12_layer) (maxL := 7) (ret := (some .int)) (by decide +kernel) rfl ?_
  intro p e s m args below meth c s₁ B hml hv
  obtain ⟨rfl, hsz, hP, hK, hD0, hG⟩ := hv
  have hx := B.exec
  have hb := B.bytes
  have hr := B.returns
  have hts := atoms_spec (ws := wsX12_layer) B.pre
  have hown : s.vm.findClass RX12 = some m.cls := findClass_of_methodNamed B.named
  have hlocks := B.notSynchronized
  subst hsz
  have hD := hD0.self (sz := s.heap.size)
  generalize hAe : va_A [(a1, .inr (17, [.int 0, .ref a2, .ref a3, .ref a4, .long 0])), (a2, .inl (T 2, 12, .inr (.inr (.inr (.inr (fun _ => none))))))] s.heap.size = A at hD hG ⊢
  have hA : ∀ q : Nat, s.heap.size ≤ q → A q := fun q h => by rw [← hAe]; exact Or.inr h
  have hS : va_S A s.heap s.heap [] := va_S.rf
  have hl := lv_entry ([.ref a1, .int p1]) (n := 7) (Nat.le_of_ble_eq_true rfl)
  rw [lg_entry_eq]
  generalize (lg_sl ([.ref a1, .int p1]) ++ List.replicate (7 - (lg_sl ([.ref a1, .int p1])).length) Slot.unset).toArray = ls at hl ⊢
  have hl : lv_has ls 7 [(0, .ref a1), (1, .int p1)] := hl
  refine lv_aload_n hx hb dX12_layer_0 rfl (lv_at hl 0 rfl) ?_
  refine lv_iload_n hx hb dX12_layer_1 rfl (lv_at hl 1 rfl) ?_
  have hPc := hP.sub (ws' := [(a1, .inr (17, [.int 0, .ref a2, .ref a3, .ref a4, .long 0])), (a2, .inl (T 2, 12, .inr (.inr (.inr (.inr (fun _ => none))))))]) [0, 1] rfl
  have hDc := hD.sub (ws' := [(a1, .inr (17, [.int 0, .ref a2, .ref a3, .ref a4, .long 0])), (a2, .inl (T 2, 12, .inr (.inr (.inr (.inr (fun _ => none))))))]) [0, 1] (by decide) rfl
  have hFc := va_free (wc := [(a1, .inr (17, [.int 0, .ref a2, .ref a3, .ref a4, .long 0])), (a2, .inl (T 2, 12, .inr (.inr (.inr (.inr (fun _ => none))))))]) hD hS hA [0, 1] rfl
  refine va_calli (va_runV (As := [.int p1]) (rest := []) ⟨hx, hb, hml, hown, hts⟩ (xcX12_isNoPoint l hst dC dI T a1 a2 a3 a4 s.heap.size p1) (cwV 1 hts gX12_layer_X12_isNoPoint rfl rfl rfl (by decide +kernel) ⟨Nat.le_of_ble_eq_true rfl, Nat.le_of_ble_eq_true rfl⟩) ⟨xBlind, va_recv hK hPc (ci := 17) (q0 := 0) rfl rfl, xCall hK hG hS hPc hDc hFc⟩ rfl rfl hl.1 rfl (lv_room (Nat.le_of_ble_eq_true rfl)) dX12_layer_2 ⟨Nat.le_of_ble_eq_true rfl, Nat.le_of_ble_eq_true rfl⟩) hS (fun q _ h => hFc q h) hFc (fun r_9 u t H locs ht hvm hw hB hz1 hk1 hS => ?_)
  subst hw
  rcases hB with ⟨hr_9, hP1, hD1⟩
  rw [ht] at hP1
  subst hr_9
  obtain ⟨hP, hD⟩ := va_join (wr := []) (w1 := [(a1, .inr (17, [.int 1, .ref a2, .ref a3, .ref a4, .long 0])), (a2, .inl (T 2, 12, .inr (.inr (.inr (.inr (fun _ => none))))))]) hP hD [0, 1] [] rfl rfl (by decide) (by decide) hk1 hFc hP1 hD1
  have hP : va_P (dC, dI) vwCl [(a1, .inr (17, [.int 1, .ref a2, .ref a3, .ref a4, .long 0])), (a2, .inl (T 2, 12, .inr (.inr (.inr (.inr (fun _ => none))))))] H := hP
  have hD : va_D A [(a1, .inr (17, [.int 1, .ref a2, .ref a3, .ref a4, .long 0])), (a2, .inl (T 2, 12, .inr (.inr (.inr (.inr (fun _ => none))))))] := hD
  clear hPc hDc hFc hP1 hD1 hk1 hz1 ht hvm
  refine lv_if_eq (tgt := 10) hx hb dX12_layer_5 (by decide) (fun c_2 => absurd c_2 (by decide)) (fun c_2 => ?_)
  refine lv_iconst (v := 0) hx hb dX12_layer_8 (by decide) ?_
  have hP9 := hP.sub (ws' := [(a1, .inr (17, [.int 1, .ref a2, .ref a3, .ref a4, .long 0]))]) [0] rfl
  have hD9 := hD.sub (ws' := [(a1, .inr (17, [.int 1, .ref a2, .ref a3, .ref a4, .long 0]))]) [0] (by decide) rfl
  exact W.iret (v := 0) hx hb hr (fun t ht hW => ⟨⟨_, _, rfl, rfl, ⟨rfl, by rw [ht]; exact hP9, hD9⟩⟩, hS.F ht⟩) hS.2.2 dX12_layer_9
set_option maxHeartbeats 4000000 in
set_option maxRecDepth 100000 in
theorem xcX12_leastGuards (l : Launch) (hst : l.stackTraces = false) (dC : Nat → ClassId) (dI : Nat → Nat → Nat) (T : Nat → ClassId) (a1 : Nat) (a2 : Nat) (a3 : Nat) (a4 : Nat) (sz : Nat) : Met l yX12_leastGuards wsX12_leastGuards ({ frames := 2, cells := 1, slots := 12, locals := 50 } : Room) (va_Pc [.ref a1] (fun U => xB dC dI T [(a1, .inr (17, [.int 0, .ref a2, .ref a3, .ref a4, .long 0])), (a2, .inl (T 2, 12, .inr (.inr (.inr (.inr (fun _ => none))))))] sz U)) (va_Qi (fun (r u : Int32) => r = u) (fun (u : Int32) (t : State) => 0 = u ∧ xE dC dI [(a1, .inr (17, [.int 0, .ref a2, .ref a3, .ref a4, .long 0]))] (va_A [(a1, .inr (17, [.int 0, .ref a2, .ref a3, .ref a4, .long 0])), (a2, .inl (T 2, 12, .inr (.inr (.inr (.inr (fun _ => none))))))] sz) t) (va_A [(a1, .inr (17, [.int 0, .ref a2, .ref a3, .ref a4, .long 0])), (a2, .inl (T 2, 12, .inr (.inr (.inr (.inr (fun _ => none))))))] sz)) 1 12 (va_A [(a1, .inr (17, [.int 0, .ref a2, .ref a3, .ref a4, .long 0])), (a2, .inl (T 2, 12, .inr (.inr (.inr (.inr (fun _ => none))))))] sz) := by
  refine Met.ofW (cc := cX12_leastGuards) (maxL := 3) (ret := (some .int)) (by decide +kernel) rfl ?_
  intro p e s m args below meth c s₁ B hml hv
  obtain ⟨rfl, hsz, hP, hK, hD0, hG⟩ := hv
  have hx := B.exec
  have hb := B.bytes
  have hr := B.returns
  have hts := atoms_spec (ws := wsX12_leastGuards) B.pre
  have hown : s.vm.findClass RX12 = some m.cls := findClass_of_methodNamed B.named
  have hlocks := B.notSynchronized
  have hin_X12 : ∀ w ∈ wsX120, w ∈ wsX12_leastGuards := by decide +kernel
  subst hsz
  have hD := hD0.self (sz := s.heap.size)
  generalize hAe : va_A [(a1, .inr (17, [.int 0, .ref a2, .ref a3, .ref a4, .long 0])), (a2, .inl (T 2, 12, .inr (.inr (.inr (.inr (fun _ => none))))))] s.heap.size = A at hD hG ⊢
  have hA : ∀ q : Nat, s.heap.size ≤ q → A q := fun q h => by rw [← hAe]; exact Or.inr h
  have hS : va_S A s.heap s.heap [] := va_S.rf
  have hl := lv_entry ([.ref a1]) (n := 3) (Nat.le_of_ble_eq_true rfl)
  rw [lg_entry_eq]
  generalize (lg_sl ([.ref a1]) ++ List.replicate (3 - (lg_sl ([.ref a1])).length) Slot.unset).toArray = ls at hl ⊢
  have hl : lv_has ls 3 [(0, .ref a1)] := hl
  refine lv_aload_n hx hb dX12_leastGuards_0 rfl (lv_at hl 0 rfl) ?_
  refine lv_iconst (v := 0) hx hb dX12_leastGuards_1 (by decide) ?_
  refine va_put (D := (dC, dI)) (ci := 17) (v := .int 0) (ty := .int) (C := RX12) (T := TX12) (N := 5) hx hb hts hin_X12 tyX12 tyX12_ok nmX12 hown hK hP hD hS 0 rfl rfl 0 (by decide) (hts (.fieldLink RX12 25 "NearestwardModel" "thrown" "I") (by decide +kernel)) (fun _ h9 => h9) rfl (by decide +kernel) rfl rfl (Nat.le_of_ble_eq_true rfl) dX12_leastGuards_2 (fun H locs hP hD hS => ?_)
  have hP : va_P (dC, dI) vwCl [(a1, .inr (17, [.int 0, .ref a2, .ref a3, .ref a4, .long 0])), (a2, .inl (T 2, 12, .inr (.inr (.inr (.inr (fun _ => none))))))] H := hP
  have hD : va_D A [(a1, .inr (17, [.int 0, .ref a2, .ref a3, .ref a4, .long 0])), (a2, .inl (T 2, 12, .inr (.inr (.inr (.inr (fun _ => none))))))] := hD
  refine lv_bipush (v := 12) hx hb dX12_leastGuards_5 (by decide) ?_
  refine xNewa (atype := .int) (ty := .int) (N' := 12) (a0 := (12, .inl (fun _ => 0))) 0 rfl hx hb (hts (.arrayClass .int) (by decide +kernel)) rfl hK hP hD hS hA (fun _ => rfl) (by decide) (by decide) (by decide) (Nat.le_of_ble_eq_true rfl) (Nat.le_of_ble_eq_true rfl) dX12_leastGuards_7 (fun q_1 H hP hD hS => ?_)
  have hP : va_P (dC, dI) vwCl [(a1, .inr (17, [.int 0, .ref a2, .ref a3, .ref a4, .long 0])), (a2, .inl (T 2, 12, .inr (.inr (.inr (.inr (fun _ => none)))))), (q_1, .inl (T 0, 12, .inl (fun _ => 0)))] H := hP
  have hD : va_D A [(a1, .inr (17, [.int 0, .ref a2, .ref a3, .ref a4, .long 0])), (a2, .inl (T 2, 12, .inr (.inr (.inr (.inr (fun _ => none)))))), (q_1, .inl (T 0, 12, .inl (fun _ => 0)))] := hD
  refine W.widen (k := 1) (n := 12) (by omega) (by omega) ?_
  refine lv_astore_n (lv' := [(1, .ref q_1), (0, .ref a1)]) hx hb dX12_leastGuards_9 rfl hl (by decide) rfl (fun ls hl => ?_)
  refine lv_iconst (v := 0) hx hb dX12_leastGuards_10 (by decide) ?_
  refine lv_istore_n (lv' := [(2, .int 0), (1, .ref q_1), (0, .ref a1)]) hx hb dX12_leastGuards_11 rfl hl (by decide) rfl (fun ls hl => ?_)
  refine xLoop (P := fun i_k_2 H locs ls => va_P (dC, dI) vwCl [(a1, .inr (17, [.int 0, .ref a2, .ref a3, .ref a4, .long 0])), (a2, .inl (T 2, 12, .inr (.inr (.inr (.inr (fun _ => none)))))), (q_1, .inl (T 0, 12, .inl (fun _ => 0)))] H ∧ va_D A [(a1, .inr (17, [.int 0, .ref a2, .ref a3, .ref a4, .long 0])), (a2, .inl (T 2, 12, .inr (.inr (.inr (.inr (fun _ => none)))))), (q_1, .inl (T 0, 12, .inl (fun _ => 0)))] ∧ va_S A s.heap H locs ∧ lv_has ls 3 [(2, .int (nI i_k_2)), (1, .ref q_1), (0, .ref a1)]) (N := 12) (fun i_k_2 H locs ls hi_k_2 hI ih_k_2 => ?_) (0) _ _ _ (by omega) ⟨hP, hD, hS, lv_sub hl [0, 1, 2] rfl⟩
  obtain ⟨hP, hD, hS, hl⟩ := hI
  refine lv_iload_n hx hb dX12_leastGuards_12 rfl (lv_at hl 0 rfl) ?_
  refine lv_bipush (v := 12) hx hb dX12_leastGuards_13 (by decide) ?_
  have hz_4 : (nI i_k_2).toInt = ((i_k_2 : Nat) : Int) := nI_toInt (by omega)
  refine lv_icmp_ge (tgt := 45) hx hb dX12_leastGuards_15 (by decide) (fun c_3 => ?_) (fun c_3 => ?_)
  · have nc_3 : 12 ≤ (nI i_k_2).toInt := (xi_le (by decide +kernel) rfl).mp c_3
    refine lv_aload_n hx hb dX12_leastGuards_45 rfl (lv_at hl 2 rfl) ?_
    refine lv_aload_n hx hb dX12_leastGuards_46 rfl (lv_at hl 1 rfl) ?_
    have hPc := hP.sub (ws' := [(a1, .inr (17, [.int 0, .ref a2, .ref a3, .ref a4, .long 0])), (a2, .inl (T 2, 12, .inr (.inr (.inr (.inr (fun _ => none))))))]) [0, 1] rfl
    have hDc := hD.sub (ws' := [(a1, .inr (17, [.int 0, .ref a2, .ref a3, .ref a4, .long 0])), (a2, .inl (T 2, 12, .inr (.inr (.inr (.inr (fun _ => none))))))]) [0, 1] (by decide) rfl
    have hFc := va_free (wc := [(a1, .inr (17, [.int 0, .ref a2, .ref a3, .ref a4, .long 0])), (a2, .inl (T 2, 12, .inr (.inr (.inr (.inr (fun _ => none))))))]) hD hS hA [0, 1] rfl
    refine va_calli (va_runV (As := [.ref q_1]) (rest := []) ⟨hx, hb, hml, hown, hts⟩ (xcX12_fewest l hst dC dI T a1 q_1 a2 a3 a4 H.size) (cwV 1 hts gX12_leastGuards_X12_fewest rfl rfl rfl (by decide +kernel) ⟨Nat.le_of_ble_eq_true rfl, Nat.le_of_ble_eq_true rfl⟩) ⟨xBlind, va_recv hK hPc (ci := 17) (q0 := 0) rfl rfl, xCall hK hG hS hPc hDc hFc⟩ rfl rfl hl.1 rfl (lv_room (Nat.le_of_ble_eq_true rfl)) dX12_leastGuards_47 ⟨Nat.le_of_ble_eq_true rfl, Nat.le_of_ble_eq_true rfl⟩) hS (fun q _ h => hFc q h) hFc (fun r_9 u t H locs ht hvm hw hB hz1 hk1 hS => ?_)
    subst hw
    rcases hB with ⟨hr_9, hP1, hD1⟩
    rw [ht] at hP1
    subst hr_9
    obtain ⟨hP, hD⟩ := va_join (wr := [(q_1, .inl (T 0, 12, .inl (fun _ => 0)))]) (w1 := [(a1, .inr (17, [.int 0, .ref a2, .ref a3, .ref a4, .long 0])), (a2, .inl (T 2, 12, .inr (.inr (.inr (.inr (fun _ => none))))))]) hP hD [0, 1] [2] rfl rfl (by decide) (by decide) hk1 hFc hP1 hD1
    have hP := hP.sub (ws' := [(a1, .inr (17, [.int 0, .ref a2, .ref a3, .ref a4, .long 0])), (a2, .inl (T 2, 12, .inr (.inr (.inr (.inr (fun _ => none)))))), (q_1, .inl (T 0, 12, .inl (fun _ => 0)))]) [1, 2, 0] rfl
    have hD := hD.sub (ws' := [(a1, .inr (17, [.int 0, .ref a2, .ref a3, .ref a4, .long 0])), (a2, .inl (T 2, 12, .inr (.inr (.inr (.inr (fun _ => none)))))), (q_1, .inl (T 0, 12, .inl (fun _ => 0)))]) [1, 2, 0] (by decide) rfl
    clear hPc hDc hFc hP1 hD1 hk1 hz1 ht hvm
    have hP9 := hP.sub (ws' := [(a1, .inr (17, [.int 0, .ref a2, .ref a3, .ref a4, .long 0]))]) [0] rfl
    have hD9 := hD.sub (ws' := [(a1, .inr (17, [.int 0, .ref a2, .ref a3, .ref a4, .long 0]))]) [0] (by decide) rfl
    exact W.iret (v := 0) hx hb hr (fun t ht hW => ⟨⟨_, _, rfl, rfl, ⟨rfl, by rw [ht]; exact hP9, hD9⟩⟩, hS.F ht⟩) hS.2.2 dX12_leastGuards_50
  · have nc_3 : ¬ (12 ≤ (nI i_k_2).toInt) := mt (xi_le (by decide +kernel) rfl).mpr c_3
    refine lv_aload_n hx hb dX12_leastGuards_18 rfl (lv_at hl 1 rfl) ?_
    refine lv_iload_n hx hb dX12_leastGuards_19 rfl (lv_at hl 0 rfl) ?_
    refine lv_aload_n hx hb dX12_leastGuards_20 rfl (lv_at hl 2 rfl) ?_
    refine va_get (D := (dC, dI)) (ci := 17) (v := .ref a2) (C := RX12) (T := TX12) (N := 5) hx hb hts hin_X12 hown hK hP 0 rfl rfl 1 (by decide) (hts (.fieldLink RX12 11 "NearestwardModel" "points" "[[I") (by decide +kernel)) (fun _ h9 => h9) rfl dX12_leastGuards_21 ?_
    refine lv_iload_n hx hb dX12_leastGuards_24 rfl (lv_at hl 0 rfl) ?_
    refine xAldq hx hb hK hP 1 2 rfl rfl (vp_in_nI (by omega) (by decide)) dX12_leastGuards_25 ?_
    refine lv_ifnonnullN hx hb dX12_leastGuards_26 ?_
    refine lv_iconst (v := 0) hx hb dX12_leastGuards_29 (by decide) ?_
    refine lv_goto (tgt := 38) hx hb dX12_leastGuards_30 (by decide) ?_
    refine va_iast hx hb hK hP hD hS 2 0 rfl rfl (vp_in_nI (by omega) (by decide)) dX12_leastGuards_38 (fun H locs hP hD hS => ?_)
    have hP : va_P (dC, dI) vwCl [(a1, .inr (17, [.int 0, .ref a2, .ref a3, .ref a4, .long 0])), (a2, .inl (T 2, 12, .inr (.inr (.inr (.inr (fun _ => none)))))), (q_1, .inl (T 0, 12, .inl (fun _ => 0)))] H := by have h9 : va_P (dC, dI) vwCl [(a1, .inr (17, [.int 0, .ref a2, .ref a3, .ref a4, .long 0])), (a2, .inl (T 2, 12, .inr (.inr (.inr (.inr (fun _ => none)))))), (q_1, .inl (T 0, 12, .inl (upd (fun _ => 0) ((nI i_k_2) : Int32).toNatClampNeg 0)))] H := hP; rw [xz] at h9; exact h9
    have hD : va_D A [(a1, .inr (17, [.int 0, .ref a2, .ref a3, .ref a4, .long 0])), (a2, .inl (T 2, 12, .inr (.inr (.inr (.inr (fun _ => none)))))), (q_1, .inl (T 0, 12, .inl (fun _ => 0)))] := by have h9 : va_D A [(a1, .inr (17, [.int 0, .ref a2, .ref a3, .ref a4, .long 0])), (a2, .inl (T 2, 12, .inr (.inr (.inr (.inr (fun _ => none)))))), (q_1, .inl (T 0, 12, .inl (upd (fun _ => 0) ((nI i_k_2) : Int32).toNatClampNeg 0)))] := hD; rw [xz] at h9; exact h9
    refine lv_iinc (v := (nI (i_k_2 + 1))) (lv' := [(2, .int (nI (i_k_2 + 1))), (1, .ref q_1), (0, .ref a1)]) hx hb dX12_leastGuards_39 hl (k := 0) rfl (nI_1 _) (by decide) rfl (fun ls hl => ?_)
    refine lv_goto (tgt := 12) hx hb dX12_leastGuards_42 (by decide) ?_
    exact ih_k_2 _ _ _ (by omega) ⟨hP, hD, hS, lv_sub hl [0, 1, 2] rfl⟩
set_option maxHeartbeats 4000000 in
set_option maxRecDepth 100000 in
theorem xcX12_move (l : Launch) (hst : l.stackTraces = false) (dC : Nat → ClassId) (dI : Nat → Nat → Nat) (T : Nat → ClassId) (a1 : Nat) (a2 : Nat) (a3 : Nat) (a4 : Nat) (sz : Nat) (p1 : Int32) (p2 : Int32) (p3 : Int32) : Met l yX12_move wsX12_move ({ frames := 3, cells := 0, slots := 0, locals := 67 } : Room) (va_Pc [.ref a1, .int p1, .int p2, .int p3] (fun U => xB dC dI T [(a1, .inr (17, [.int 0, .ref a2, .ref a3, .ref a4, .long 0])), (a2, .inl (T 2, 12, .inr (.inr (.inr (.inr (fun _ => none))))))] sz U)) (va_Qi (fun (r u : Int32) => r = u) (fun (u : Int32) (t : State) => 0 = u ∧ xE dC dI [(a1, .inr (17, [.int 1, .ref a2, .ref a3, .ref a4, .long 0]))] (va_A [(a1, .inr (17, [.int 0, .ref a2, .ref a3, .ref a4, .long 0])), (a2, .inl (T 2, 12, .inr (.inr (.inr (.inr (fun _ => none))))))] sz) t) (va_A [(a1, .inr (17, [.int 0, .ref a2, .ref a3, .ref a4, .long 0])), (a2, .inl (T 2, 12, .inr (.inr (.inr (.inr (fun _ => none))))))] sz)) 0 0 (va_A [(a1, .inr (17, [.int 0, .ref a2, .ref a3, .ref a4, .long 0])), (a2, .inl (T 2, 12, .inr (.inr (.inr (.inr (fun _ => none))))))] sz) := by
  refine Met.ofW (cc := cX12_move) (maxL := 5) (ret := (some .int)) (by decide +kernel) rfl ?_
  intro p e s m args below meth c s₁ B hml hv
  obtain ⟨rfl, hsz, hP, hK, hD0, hG⟩ := hv
  have hx := B.exec
  have hb := B.bytes
  have hr := B.returns
  have hts := atoms_spec (ws := wsX12_move) B.pre
  have hown : s.vm.findClass RX12 = some m.cls := findClass_of_methodNamed B.named
  have hlocks := B.notSynchronized
  subst hsz
  have hD := hD0.self (sz := s.heap.size)
  generalize hAe : va_A [(a1, .inr (17, [.int 0, .ref a2, .ref a3, .ref a4, .long 0])), (a2, .inl (T 2, 12, .inr (.inr (.inr (.inr (fun _ => none))))))] s.heap.size = A at hD hG ⊢
  have hA : ∀ q : Nat, s.heap.size ≤ q → A q := fun q h => by rw [← hAe]; exact Or.inr h
  have hS : va_S A s.heap s.heap [] := va_S.rf
  have hl := lv_entry ([.ref a1, .int p1, .int p2, .int p3]) (n := 5) (Nat.le_of_ble_eq_true rfl)
  rw [lg_entry_eq]
  generalize (lg_sl ([.ref a1, .int p1, .int p2, .int p3]) ++ List.replicate (5 - (lg_sl ([.ref a1, .int p1, .int p2, .int p3])).length) Slot.unset).toArray = ls at hl ⊢
  have hl : lv_has ls 5 [(0, .ref a1), (1, .int p1), (2, .int p2), (3, .int p3)] := hl
  refine lv_aload_n hx hb dX12_move_0 rfl (lv_at hl 0 rfl) ?_
  refine lv_iload_n hx hb dX12_move_1 rfl (lv_at hl 1 rfl) ?_
  have hPc := hP.sub (ws' := [(a1, .inr (17, [.int 0, .ref a2, .ref a3, .ref a4, .long 0])), (a2, .inl (T 2, 12, .inr (.inr (.inr (.inr (fun _ => none))))))]) [0, 1] rfl
  have hDc := hD.sub (ws' := [(a1, .inr (17, [.int 0, .ref a2, .ref a3, .ref a4, .long 0])), (a2, .inl (T 2, 12, .inr (.inr (.inr (.inr (fun _ => none))))))]) [0, 1] (by decide) rfl
  have hFc := va_free (wc := [(a1, .inr (17, [.int 0, .ref a2, .ref a3, .ref a4, .long 0])), (a2, .inl (T 2, 12, .inr (.inr (.inr (.inr (fun _ => none))))))]) hD hS hA [0, 1] rfl
  refine va_calli (va_runV (As := [.int p1]) (rest := []) ⟨hx, hb, hml, hown, hts⟩ (xcX12_isNoPoint l hst dC dI T a1 a2 a3 a4 s.heap.size p1) (cwV 1 hts gX12_move_X12_isNoPoint rfl rfl rfl (by decide +kernel) ⟨Nat.le_of_ble_eq_true rfl, Nat.le_of_ble_eq_true rfl⟩) ⟨xBlind, va_recv hK hPc (ci := 17) (q0 := 0) rfl rfl, xCall hK hG hS hPc hDc hFc⟩ rfl rfl hl.1 rfl (lv_room (Nat.le_of_ble_eq_true rfl)) dX12_move_2 ⟨Nat.le_of_ble_eq_true rfl, Nat.le_of_ble_eq_true rfl⟩) hS (fun q _ h => hFc q h) hFc (fun r_9 u t H locs ht hvm hw hB hz1 hk1 hS => ?_)
  subst hw
  rcases hB with ⟨hr_9, hP1, hD1⟩
  rw [ht] at hP1
  subst hr_9
  obtain ⟨hP, hD⟩ := va_join (wr := []) (w1 := [(a1, .inr (17, [.int 1, .ref a2, .ref a3, .ref a4, .long 0])), (a2, .inl (T 2, 12, .inr (.inr (.inr (.inr (fun _ => none))))))]) hP hD [0, 1] [] rfl rfl (by decide) (by decide) hk1 hFc hP1 hD1
  have hP : va_P (dC, dI) vwCl [(a1, .inr (17, [.int 1, .ref a2, .ref a3, .ref a4, .long 0])), (a2, .inl (T 2, 12, .inr (.inr (.inr (.inr (fun _ => none))))))] H := hP
  have hD : va_D A [(a1, .inr (17, [.int 1, .ref a2, .ref a3, .ref a4, .long 0])), (a2, .inl (T 2, 12, .inr (.inr (.inr (.inr (fun _ => none))))))] := hD
  clear hPc hDc hFc hP1 hD1 hk1 hz1 ht hvm
  refine lv_if_ne (tgt := 54) hx hb dX12_move_5 (by decide) (fun c_2 => ?_) (fun c_2 => absurd c_2 (by decide))
  refine lv_iconst (v := 0) hx hb dX12_move_54 (by decide) ?_
  have hP9 := hP.sub (ws' := [(a1, .inr (17, [.int 1, .ref a2, .ref a3, .ref a4, .long 0]))]) [0] rfl
  have hD9 := hD.sub (ws' := [(a1, .inr (17, [.int 1, .ref a2, .ref a3, .ref a4, .long 0]))]) [0] (by decide) rfl
  exact W.iret (v := 0) hx hb hr (fun t ht hW => ⟨⟨_, _, rfl, rfl, ⟨rfl, by rw [ht]; exact hP9, hD9⟩⟩, hS.F ht⟩) hS.2.2 dX12_move_55
set_option maxHeartbeats 4000000 in
set_option maxRecDepth 100000 in
theorem xcX12_nearestAt (l : Launch) (hst : l.stackTraces = false) (dC : Nat → ClassId) (dI : Nat → Nat → Nat) (T : Nat → ClassId) (a1 : Nat) (a2 : Nat) (a3 : Nat) (a4 : Nat) (sz : Nat) (p1 : Int32) (p2 : Int32) (p3 : Int32) : Met l yX12_nearestAt wsX12_nearestAt ({ frames := 3, cells := 0, slots := 0, locals := 71 } : Room) (va_Pc [.ref a1, .int p1, .int p2, .int p3, .int 0] (fun U => xB dC dI T [(a1, .inr (17, [.int 0, .ref a2, .ref a3, .ref a4, .long 0])), (a2, .inl (T 2, 12, .inr (.inr (.inr (.inr (fun _ => none))))))] sz U)) (va_Qi (fun (r u : Int32) => r = u) (fun (u : Int32) (t : State) => (((((p1.toInt = 101) ∨ ((¬ (p1.toInt = 101)) ∧ (p1.toInt = 115)) ∨ ((¬ (p1.toInt = 101)) ∧ (¬ (p1.toInt = 115)) ∧ (p1.toInt = 109)) ∨ ((¬ (p1.toInt = 101)) ∧ (¬ (p1.toInt = 115)) ∧ (¬ (p1.toInt = 109)) ∧ (p1.toInt = 112))) ∧ ((((p2.toInt64).toInt < -999) ∨ ((¬ ((p2.toInt64).toInt < -999)) ∧ (999 < (p2.toInt64).toInt))) ∨ (((¬ ((p2.toInt64).toInt < -999)) ∧ (¬ (999 < (p2.toInt64).toInt))) ∧ (((p3.toInt64).toInt < -999) ∨ ((¬ ((p3.toInt64).toInt < -999)) ∧ (999 < (p3.toInt64).toInt)))))) ∨ ((¬ (p1.toInt = 101)) ∧ (¬ (p1.toInt = 115)) ∧ (¬ (p1.toInt = 109)) ∧ (¬ (p1.toInt = 112)))) ∧ 0 = u ∧ xE dC dI [(a1, .inr (17, [.int 1, .ref a2, .ref a3, .ref a4, .long 0]))] (va_A [(a1, .inr (17, [.int 0, .ref a2, .ref a3, .ref a4, .long 0])), (a2, .inl (T 2, 12, .inr (.inr (.inr (.inr (fun _ => none))))))] sz) t) ∨ ((((p1.toInt = 101) ∨ ((¬ (p1.toInt = 101)) ∧ (p1.toInt = 115)) ∨ ((¬ (p1.toInt = 101)) ∧ (¬ (p1.toInt = 115)) ∧ (p1.toInt = 109)) ∨ ((¬ (p1.toInt = 101)) ∧ (¬ (p1.toInt = 115)) ∧ (¬ (p1.toInt = 109)) ∧ (p1.toInt = 112))) ∧ (((¬ ((p2.toInt64).toInt < -999)) ∧ (¬ (999 < (p2.toInt64).toInt))) ∧ ((¬ ((p3.toInt64).toInt < -999)) ∧ (¬ (999 < (p3.toInt64).toInt))))) ∧ 0 = u ∧ xE dC dI [(a1, .inr (17, [.int 2, .ref a2, .ref a3, .ref a4, .long 0]))] (va_A [(a1, .inr (17, [.int 0, .ref a2, .ref a3, .ref a4, .long 0])), (a2, .inl (T 2, 12, .inr (.inr (.inr (.inr (fun _ => none))))))] sz) t)) (va_A [(a1, .inr (17, [.int 0, .ref a2, .ref a3, .ref a4, .long 0])), (a2, .inl (T 2, 12, .inr (.inr (.inr (.inr (fun _ => none))))))] sz)) 0 0 (va_A [(a1, .inr (17, [.int 0, .ref a2, .ref a3, .ref a4, .long 0])), (a2, .inl (T 2, 12, .inr (.inr (.inr (.inr (fun _ => none))))))] sz) := by
  refine Met.ofW (cc := cX12_nearestAt) (maxL := 5) (ret := (some .int)) (by decide +kernel) rfl ?_
  intro p e s m args below meth c s₁ B hml hv
  obtain ⟨rfl, hsz, hP, hK, hD0, hG⟩ := hv
  have hx := B.exec
  have hb := B.bytes
  have hr := B.returns
  have hts := atoms_spec (ws := wsX12_nearestAt) B.pre
  have hown : s.vm.findClass RX12 = some m.cls := findClass_of_methodNamed B.named
  have hlocks := B.notSynchronized
  subst hsz
  have hD := hD0.self (sz := s.heap.size)
  generalize hAe : va_A [(a1, .inr (17, [.int 0, .ref a2, .ref a3, .ref a4, .long 0])), (a2, .inl (T 2, 12, .inr (.inr (.inr (.inr (fun _ => none))))))] s.heap.size = A at hD hG ⊢
  have hA : ∀ q : Nat, s.heap.size ≤ q → A q := fun q h => by rw [← hAe]; exact Or.inr h
  have hS : va_S A s.heap s.heap [] := va_S.rf
  have hl := lv_entry ([.ref a1, .int p1, .int p2, .int p3, .int 0]) (n := 5) (Nat.le_of_ble_eq_true rfl)
  rw [lg_entry_eq]
  generalize (lg_sl ([.ref a1, .int p1, .int p2, .int p3, .int 0]) ++ List.replicate (5 - (lg_sl ([.ref a1, .int p1, .int p2, .int p3, .int 0])).length) Slot.unset).toArray = ls at hl ⊢
  have hl : lv_has ls 5 [(0, .ref a1), (1, .int p1), (2, .int p2), (3, .int p3), (4, .int 0)] := hl
  refine lv_aload_n hx hb dX12_nearestAt_0 rfl (lv_at hl 0 rfl) ?_
  refine lv_iload_n hx hb dX12_nearestAt_1 rfl (lv_at hl 1 rfl) ?_
  refine lv_iload_n hx hb dX12_nearestAt_2 rfl (lv_at hl 2 rfl) ?_
  refine lv_iload_n hx hb dX12_nearestAt_3 rfl (lv_at hl 3 rfl) ?_
  refine lv_iload hx hb dX12_nearestAt_4 (lv_at hl 4 rfl) ?_
  have hPc := hP.sub (ws' := [(a1, .inr (17, [.int 0, .ref a2, .ref a3, .ref a4, .long 0])), (a2, .inl (T 2, 12, .inr (.inr (.inr (.inr (fun _ => none))))))]) [0, 1] rfl
  have hDc := hD.sub (ws' := [(a1, .inr (17, [.int 0, .ref a2, .ref a3, .ref a4, .long 0])), (a2, .inl (T 2, 12, .inr (.inr (.inr (.inr (fun _ => none))))))]) [0, 1] (by decide) rfl
  have hFc := va_free (wc := [(a1, .inr (17, [.int 0, .ref a2, .ref a3, .ref a4, .long 0])), (a2, .inl (T 2, 12, .inr (.inr (.inr (.inr (fun _ => none))))))]) hD hS hA [0, 1] rfl
  refine va_calli (va_runV (As := [.int p1, .int p2, .int p3, .int 0]) (rest := []) ⟨hx, hb, hml, hown, hts⟩ (xcX12_isNoQuestion l hst dC dI T a1 a2 a3 a4 s.heap.size p1 p2 p3) (cwV 4 hts gX12_nearestAt_X12_isNoQuestion rfl rfl rfl (by decide +kernel) ⟨Nat.le_of_ble_eq_true rfl, Nat.le_of_ble_eq_true rfl⟩) ⟨xBlind, va_recv hK hPc (ci := 17) (q0 := 0) rfl rfl, xCall hK hG hS hPc hDc hFc⟩ rfl rfl hl.1 rfl (lv_room (Nat.le_of_ble_eq_true rfl)) dX12_nearestAt_6 ⟨Nat.le_of_ble_eq_true rfl, Nat.le_of_ble_eq_true rfl⟩) hS (fun q _ h => hFc q h) hFc (fun r_9 u t H locs ht hvm hw hB hz1 hk1 hS => ?_)
  subst hw
  rcases hB with ⟨c_1, hr_9, hP1, hD1⟩ | ⟨c_2, hr_9, hP1, hD1⟩
  · have hz_3 : (p2.toInt64).toInt = p2.toInt := Int32.toInt_toInt64 _
    have hz_4 : (p3.toInt64).toInt = p3.toInt := Int32.toInt_toInt64 _
    rw [ht] at hP1
    subst hr_9
    obtain ⟨hP, hD⟩ := va_join (wr := []) (w1 := [(a1, .inr (17, [.int 1, .ref a2, .ref a3, .ref a4, .long 0])), (a2, .inl (T 2, 12, .inr (.inr (.inr (.inr (fun _ => none))))))]) hP hD [0, 1] [] rfl rfl (by decide) (by decide) hk1 hFc hP1 hD1
    have hP : va_P (dC, dI) vwCl [(a1, .inr (17, [.int 1, .ref a2, .ref a3, .ref a4, .long 0])), (a2, .inl (T 2, 12, .inr (.inr (.inr (.inr (fun _ => none))))))] H := hP
    have hD : va_D A [(a1, .inr (17, [.int 1, .ref a2, .ref a3, .ref a4, .long 0])), (a2, .inl (T 2, 12, .inr (.inr (.inr (.inr (fun _ => none))))))] := hD
    clear hPc hDc hFc hP1 hD1 hk1 hz1 ht hvm
    refine lv_if_eq (tgt := 16) hx hb dX12_nearestAt_9 (by decide) (fun c_5 => absurd c_5 (by decide)) (fun c_5 => ?_)
    refine lv_iconst (v := 0) hx hb dX12_nearestAt_12 (by decide) ?_
    refine lv_goto (tgt := 26) hx hb dX12_nearestAt_13 (by decide) ?_
    have hP9 := hP.sub (ws' := [(a1, .inr (17, [.int 1, .ref a2, .ref a3, .ref a4, .long 0]))]) [0] rfl
    have hD9 := hD.sub (ws' := [(a1, .inr (17, [.int 1, .ref a2, .ref a3, .ref a4, .long 0]))]) [0] (by decide) rfl
    exact W.iret (v := 0) hx hb hr (fun t ht hW => ⟨⟨_, _, rfl, rfl, (Or.inl ⟨c_1, rfl, by rw [ht]; exact hP9, hD9⟩)⟩, hS.F ht⟩) hS.2.2 dX12_nearestAt_26
  · have hz_6 : (p2.toInt64).toInt = p2.toInt := Int32.toInt_toInt64 _
    have hz_7 : (p3.toInt64).toInt = p3.toInt := Int32.toInt_toInt64 _
    rw [ht] at hP1
    subst hr_9
    obtain ⟨hP, hD⟩ := va_join (wr := []) (w1 := [(a1, .inr (17, [.int 2, .ref a2, .ref a3, .ref a4, .long 0])), (a2, .inl (T 2, 12, .inr (.inr (.inr (.inr (fun _ => none))))))]) hP hD [0, 1] [] rfl rfl (by decide) (by decide) hk1 hFc hP1 hD1
    have hP : va_P (dC, dI) vwCl [(a1, .inr (17, [.int 2, .ref a2, .ref a3, .ref a4, .long 0])), (a2, .inl (T 2, 12, .inr (.inr (.inr (.inr (fun _ => none))))))] H := hP
    have hD : va_D A [(a1, .inr (17, [.int 2, .ref a2, .ref a3, .ref a4, .long 0])), (a2, .inl (T 2, 12, .inr (.inr (.inr (.inr (fun _ => none))))))] := hD
    clear hPc hDc hFc hP1 hD1 hk1 hz1 ht hvm
    refine lv_if_eq (tgt := 16) hx hb dX12_nearestAt_9 (by decide) (fun c_8 => absurd c_8 (by decide)) (fun c_8 => ?_)
    refine lv_iconst (v := 0) hx hb dX12_nearestAt_12 (by decide) ?_
    refine lv_goto (tgt := 26) hx hb dX12_nearestAt_13 (by decide) ?_
    have hP9 := hP.sub (ws' := [(a1, .inr (17, [.int 2, .ref a2, .ref a3, .ref a4, .long 0]))]) [0] rfl
    have hD9 := hD.sub (ws' := [(a1, .inr (17, [.int 2, .ref a2, .ref a3, .ref a4, .long 0]))]) [0] (by decide) rfl
    exact W.iret (v := 0) hx hb hr (fun t ht hW => ⟨⟨_, _, rfl, rfl, (Or.inr (⟨c_2, rfl, by rw [ht]; exact hP9, hD9⟩))⟩, hS.F ht⟩) hS.2.2 dX12_nearestAt_26
set_option maxHeartbeats 4000000 in
set_option maxRecDepth 100000 in
theorem xcX12_nearest (l : Launch) (hst : l.stackTraces = false) (dC : Nat → ClassId) (dI : Nat → Nat → Nat) (T : Nat → ClassId) (a1 : Nat) (a2 : Nat) (a3 : Nat) (a4 : Nat) (sz : Nat) (p1 : Int32) (p2 : Int32) (p3 : Int32) : Met l yX12_nearest wsX12_nearest ({ frames := 4, cells := 0, slots := 0, locals := 95 } : Room) (va_Pc [.ref a1, .int p1, .int p2, .int p3] (fun U => xB dC dI T [(a1, .inr (17, [.int 0, .ref a2, .ref a3, .ref a4, .long 0])), (a2, .inl (T 2, 12, .inr (.inr (.inr (.inr (fun _ => none))))))] sz U)) (va_Qi (fun (r u : Int32) => r = u) (fun (u : Int32) (t : State) => (((((p1.toInt = 101) ∨ ((¬ (p1.toInt = 101)) ∧ (p1.toInt = 115)) ∨ ((¬ (p1.toInt = 101)) ∧ (¬ (p1.toInt = 115)) ∧ (p1.toInt = 109)) ∨ ((¬ (p1.toInt = 101)) ∧ (¬ (p1.toInt = 115)) ∧ (¬ (p1.toInt = 109)) ∧ (p1.toInt = 112))) ∧ ((((p2.toInt64).toInt < -999) ∨ ((¬ ((p2.toInt64).toInt < -999)) ∧ (999 < (p2.toInt64).toInt))) ∨ (((¬ ((p2.toInt64).toInt < -999)) ∧ (¬ (999 < (p2.toInt64).toInt))) ∧ (((p3.toInt64).toInt < -999) ∨ ((¬ ((p3.toInt64).toInt < -999)) ∧ (999 < (p3.toInt64).toInt)))))) ∨ ((¬ (p1.toInt = 101)) ∧ (¬ (p1.toInt = 115)) ∧ (¬ (p1.toInt = 109)) ∧ (¬ (p1.toInt = 112)))) ∧ 0 = u ∧ xE dC dI [(a1, .inr (17, [.int 1, .ref a2, .ref a3, .ref a4, .long 0]))] (va_A [(a1, .inr (17, [.int 0, .ref a2, .ref a3, .ref a4, .long 0])), (a2, .inl (T 2, 12, .inr (.inr (.inr (.inr (fun _ => none))))))] sz) t) ∨ ((((p1.toInt = 101) ∨ ((¬ (p1.toInt = 101)) ∧ (p1.toInt = 115)) ∨ ((¬ (p1.toInt = 101)) ∧ (¬ (p1.toInt = 115)) ∧ (p1.toInt = 109)) ∨ ((¬ (p1.toInt = 101)) ∧ (¬ (p1.toInt = 115)) ∧ (¬ (p1.toInt = 109)) ∧ (p1.toInt = 112))) ∧ (((¬ ((p2.toInt64).toInt < -999)) ∧ (¬ (999 < (p2.toInt64).toInt))) ∧ ((¬ ((p3.toInt64).toInt < -999)) ∧ (¬ (999 < (p3.toInt64).toInt))))) ∧ 0 = u ∧ xE dC dI [(a1, .inr (17, [.int 2, .ref a2, .ref a3, .ref a4, .long 0]))] (va_A [(a1, .inr (17, [.int 0, .ref a2, .ref a3, .ref a4, .long 0])), (a2, .inl (T 2, 12, .inr (.inr (.inr (.inr (fun _ => none))))))] sz) t)) (va_A [(a1, .inr (17, [.int 0, .ref a2, .ref a3, .ref a4, .long 0])), (a2, .inl (T 2, 12, .inr (.inr (.inr (.inr (fun _ => none))))))] sz)) 0 0 (va_A [(a1, .inr (17, [.int 0, .ref a2, .ref a3, .ref a4, .long 0])), (a2, .inl (T 2, 12, .inr (.inr (.inr (.inr (fun _ => none))))))] sz) := by
  refine Met.ofW (cc := cX12_nearest) (maxL := 4) (ret := (some .int)) (by decide +kernel) rfl ?_
  intro p e s m args below meth c s₁ B hml hv
  obtain ⟨rfl, hsz, hP, hK, hD0, hG⟩ := hv
  have hx := B.exec
  have hb := B.bytes
  have hr := B.returns
  have hts := atoms_spec (ws := wsX12_nearest) B.pre
  have hown : s.vm.findClass RX12 = some m.cls := findClass_of_methodNamed B.named
  have hlocks := B.notSynchronized
  subst hsz
  have hD := hD0.self (sz := s.heap.size)
  generalize hAe : va_A [(a1, .inr (17, [.int 0, .ref a2, .ref a3, .ref a4, .long 0])), (a2, .inl (T 2, 12, .inr (.inr (.inr (.inr (fun _ => none))))))] s.heap.size = A at hD hG ⊢
  have hA : ∀ q : Nat, s.heap.size ≤ q → A q := fun q h => by rw [← hAe]; exact Or.inr h
  have hS : va_S A s.heap s.heap [] := va_S.rf
  have hl := lv_entry ([.ref a1, .int p1, .int p2, .int p3]) (n := 4) (Nat.le_of_ble_eq_true rfl)
  rw [lg_entry_eq]
  generalize (lg_sl ([.ref a1, .int p1, .int p2, .int p3]) ++ List.replicate (4 - (lg_sl ([.ref a1, .int p1, .int p2, .int p3])).length) Slot.unset).toArray = ls at hl ⊢
  have hl : lv_has ls 4 [(0, .ref a1), (1, .int p1), (2, .int p2), (3, .int p3)] := hl
  refine lv_aload_n hx hb dX12_nearest_0 rfl (lv_at hl 0 rfl) ?_
  refine lv_iload_n hx hb dX12_nearest_1 rfl (lv_at hl 1 rfl) ?_
  refine lv_iload_n hx hb dX12_nearest_2 rfl (lv_at hl 2 rfl) ?_
  refine lv_iload_n hx hb dX12_nearest_3 rfl (lv_at hl 3 rfl) ?_
  refine lv_iconst (v := 0) hx hb dX12_nearest_4 (by decide) ?_
  have hPc := hP.sub (ws' := [(a1, .inr (17, [.int 0, .ref a2, .ref a3, .ref a4, .long 0])), (a2, .inl (T 2, 12, .inr (.inr (.inr (.inr (fun _ => none))))))]) [0, 1] rfl
  have hDc := hD.sub (ws' := [(a1, .inr (17, [.int 0, .ref a2, .ref a3, .ref a4, .long 0])), (a2, .inl (T 2, 12, .inr (.inr (.inr (.inr (fun _ => none))))))]) [0, 1] (by decide) rfl
  have hFc := va_free (wc := [(a1, .inr (17, [.int 0, .ref a2, .ref a3, .ref a4, .long 0])), (a2, .inl (T 2, 12, .inr (.inr (.inr (.inr (fun _ => none))))))]) hD hS hA [0, 1] rfl
  refine va_calli (va_runV (As := [.int p1, .int p2, .int p3, .int 0]) (rest := []) ⟨hx, hb, hml, hown, hts⟩ (xcX12_nearestAt l hst dC dI T a1 a2 a3 a4 s.heap.size p1 p2 p3) (cwV 4 hts gX12_nearest_X12_nearestAt rfl rfl rfl (by decide +kernel) ⟨Nat.le_of_ble_eq_true rfl, Nat.le_of_ble_eq_true rfl⟩) ⟨xBlind, va_recv hK hPc (ci := 17) (q0 := 0) rfl rfl, xCall hK hG hS hPc hDc hFc⟩ rfl rfl hl.1 rfl (lv_room (Nat.le_of_ble_eq_true rfl)) dX12_nearest_5 ⟨Nat.le_of_ble_eq_true rfl, Nat.le_of_ble_eq_true rfl⟩) hS (fun q _ h => hFc q h) hFc (fun r_9 u t H locs ht hvm hw hB hz1 hk1 hS => ?_)
  subst hw
  rcases hB with ⟨c_1, hr_9, hP1, hD1⟩ | ⟨c_2, hr_9, hP1, hD1⟩
  · have hz_3 : (p2.toInt64).toInt = p2.toInt := Int32.toInt_toInt64 _
    have hz_4 : (p3.toInt64).toInt = p3.toInt := Int32.toInt_toInt64 _
    rw [ht] at hP1
    subst hr_9
    obtain ⟨hP, hD⟩ := va_join (wr := []) (w1 := [(a1, .inr (17, [.int 1, .ref a2, .ref a3, .ref a4, .long 0]))]) hP hD [0, 1] [] rfl rfl (by decide) (by decide) hk1 hFc hP1 hD1
    have hP : va_P (dC, dI) vwCl [(a1, .inr (17, [.int 1, .ref a2, .ref a3, .ref a4, .long 0]))] H := hP
    have hD : va_D A [(a1, .inr (17, [.int 1, .ref a2, .ref a3, .ref a4, .long 0]))] := hD
    clear hPc hDc hFc hP1 hD1 hk1 hz1 ht hvm
    have hP9 := hP.sub (ws' := [(a1, .inr (17, [.int 1, .ref a2, .ref a3, .ref a4, .long 0]))]) [0] rfl
    have hD9 := hD.sub (ws' := [(a1, .inr (17, [.int 1, .ref a2, .ref a3, .ref a4, .long 0]))]) [0] (by decide) rfl
    exact W.iret (v := 0) hx hb hr (fun t ht hW => ⟨⟨_, _, rfl, rfl, (Or.inl ⟨c_1, rfl, by rw [ht]; exact hP9, hD9⟩)⟩, hS.F ht⟩) hS.2.2 dX12_nearest_8
  · have hz_5 : (p2.toInt64).toInt = p2.toInt := Int32.toInt_toInt64 _
    have hz_6 : (p3.toInt64).toInt = p3.toInt := Int32.toInt_toInt64 _
    rw [ht] at hP1
    subst hr_9
    obtain ⟨hP, hD⟩ := va_join (wr := []) (w1 := [(a1, .inr (17, [.int 2, .ref a2, .ref a3, .ref a4, .long 0]))]) hP hD [0, 1] [] rfl rfl (by decide) (by decide) hk1 hFc hP1 hD1
    have hP : va_P (dC, dI) vwCl [(a1, .inr (17, [.int 2, .ref a2, .ref a3, .ref a4, .long 0]))] H := hP
    have hD : va_D A [(a1, .inr (17, [.int 2, .ref a2, .ref a3, .ref a4, .long 0]))] := hD
    clear hPc hDc hFc hP1 hD1 hk1 hz1 ht hvm
    have hP9 := hP.sub (ws' := [(a1, .inr (17, [.int 2, .ref a2, .ref a3, .ref a4, .long 0]))]) [0] rfl
    have hD9 := hD.sub (ws' := [(a1, .inr (17, [.int 2, .ref a2, .ref a3, .ref a4, .long 0]))]) [0] (by decide) rfl
    exact W.iret (v := 0) hx hb hr (fun t ht hW => ⟨⟨_, _, rfl, rfl, (Or.inr (⟨c_2, rfl, by rw [ht]; exact hP9, hD9⟩))⟩, hS.F ht⟩) hS.2.2 dX12_nearest_8
set_option maxHeartbeats 4000000 in
set_option maxRecDepth 100000 in
theorem xcX12_isNoQuestion_v2 (l : Launch) (hst : l.stackTraces = false) (dC : Nat → ClassId) (dI : Nat → Nat → Nat) (T : Nat → ClassId) (a1 : Nat) (a2 : Nat) (a3 : Nat) (a4 : Nat) (sz : Nat) (p1 : Int32) (p2 : Int32) (p3 : Int32) (p4 : Int32) : Met l yX12_isNoQuestion wsX12_isNoQuestion ({ frames := 2, cells := 0, slots := 0, locals := 47 } : Room) (va_Pc [.ref a1, .int p1, .int p2, .int p3, .int p4] (fun U => xB dC dI T [(a1, .inr (17, [.int 0, .ref a2, .ref a3, .ref a4, .long 0])), (a2, .inl (T 2, 12, .inr (.inr (.inr (.inr (fun _ => none))))))] sz U)) (va_Qi (fun (r u : Int32) => r = u) (fun (u : Int32) (t : State) => (((((p1.toInt = 101) ∨ ((¬ (p1.toInt = 101)) ∧ (p1.toInt = 115)) ∨ ((¬ (p1.toInt = 101)) ∧ (¬ (p1.toInt = 115)) ∧ (p1.toInt = 109)) ∨ ((¬ (p1.toInt = 101)) ∧ (¬ (p1.toInt = 115)) ∧ (¬ (p1.toInt = 109)) ∧ (p1.toInt = 112))) ∧ ((((p2.toInt64).toInt < -999) ∨ ((¬ ((p2.toInt64).toInt < -999)) ∧ (999 < (p2.toInt64).toInt))) ∨ (((¬ ((p2.toInt64).toInt < -999)) ∧ (¬ (999 < (p2.toInt64).toInt))) ∧ (((p3.toInt64).toInt < -999) ∨ ((¬ ((p3.toInt64).toInt < -999)) ∧ (999 < (p3.toInt64).toInt)))))) ∨ ((¬ (p1.toInt = 101)) ∧ (¬ (p1.toInt = 115)) ∧ (¬ (p1.toInt = 109)) ∧ (¬ (p1.toInt = 112)))) ∧ 1 = u ∧ xE dC dI [(a1, .inr (17, [.int 1, .ref a2, .ref a3, .ref a4, .long 0])), (a2, .inl (T 2, 12, .inr (.inr (.inr (.inr (fun _ => none))))))] (va_A [(a1, .inr (17, [.int 0, .ref a2, .ref a3, .ref a4, .long 0])), (a2, .inl (T 2, 12, .inr (.inr (.inr (.inr (fun _ => none))))))] sz) t) ∨ ((((p1.toInt = 101) ∨ ((¬ (p1.toInt = 101)) ∧ (p1.toInt = 115)) ∨ ((¬ (p1.toInt = 101)) ∧ (¬ (p1.toInt = 115)) ∧ (p1.toInt = 109)) ∨ ((¬ (p1.toInt = 101)) ∧ (¬ (p1.toInt = 115)) ∧ (¬ (p1.toInt = 109)) ∧ (p1.toInt = 112))) ∧ (((¬ ((p2.toInt64).toInt < -999)) ∧ (¬ (999 < (p2.toInt64).toInt))) ∧ ((¬ ((p3.toInt64).toInt < -999)) ∧ (¬ (999 < (p3.toInt64).toInt)))) ∧ (((p4.toInt64).toInt < 0) ∨ ((¬ ((p4.toInt64).toInt < 0)) ∧ (((-1) : Int64).toInt < (p4.toInt64).toInt)))) ∧ 1 = u ∧ xE dC dI [(a1, .inr (17, [.int 2, .ref a2, .ref a3, .ref a4, .long 0])), (a2, .inl (T 2, 12, .inr (.inr (.inr (.inr (fun _ => none))))))] (va_A [(a1, .inr (17, [.int 0, .ref a2, .ref a3, .ref a4, .long 0])), (a2, .inl (T 2, 12, .inr (.inr (.inr (.inr (fun _ => none))))))] sz) t)) (va_A [(a1, .inr (17, [.int 0, .ref a2, .ref a3, .ref a4, .long 0])), (a2, .inl (T 2, 12, .inr (.inr (.inr (.inr (fun _ => none))))))] sz)) 0 0 (va_A [(a1, .inr (17, [.int 0, .ref a2, .ref a3, .ref a4, .long 0])), (a2, .inl (T 2, 12, .inr (.inr (.inr (.inr (fun _ => none))))))] sz) := by
  refine Met.ofW (cc := cX12_isNoQuestion) (maxL := 5) (ret := (some .boolean)) (by decide +kernel) rfl ?_
  intro p e s m args below meth c s₁ B hml hv
  obtain ⟨rfl, hsz, hP, hK, hD0, hG⟩ := hv
  have hx := B.exec
  have hb := B.bytes
  have hr := B.returns
  have hts := atoms_spec (ws := wsX12_isNoQuestion) B.pre
  have hown : s.vm.findClass RX12 = some m.cls := findClass_of_methodNamed B.named
  have hlocks := B.notSynchronized
  subst hsz
  have hD := hD0.self (sz := s.heap.size)
  generalize hAe : va_A [(a1, .inr (17, [.int 0, .ref a2, .ref a3, .ref a4, .long 0])), (a2, .inl (T 2, 12, .inr (.inr (.inr (.inr (fun _ => none))))))] s.heap.size = A at hD hG ⊢
  have hA : ∀ q : Nat, s.heap.size ≤ q → A q := fun q h => by rw [← hAe]; exact Or.inr h
  have hS : va_S A s.heap s.heap [] := va_S.rf
  have hl := lv_entry ([.ref a1, .int p1, .int p2, .int p3, .int p4]) (n := 5) (Nat.le_of_ble_eq_true rfl)
  rw [lg_entry_eq]
  generalize (lg_sl ([.ref a1, .int p1, .int p2, .int p3, .int p4]) ++ List.replicate (5 - (lg_sl ([.ref a1, .int p1, .int p2, .int p3, .int p4])).length) Slot.unset).toArray = ls at hl ⊢
  have hl : lv_has ls 5 [(0, .ref a1), (1, .int p1), (2, .int p2), (3, .int p3), (4, .int p4)] := hl
  refine lv_aload_n hx hb dX12_isNoQuestion_0 rfl (lv_at hl 0 rfl) ?_
  refine lv_iload_n hx hb dX12_isNoQuestion_1 rfl (lv_at hl 1 rfl) ?_
  have hPc := hP.sub (ws' := []) [] rfl
  have hDc := hD.sub (ws' := []) [] (by decide) rfl
  have hFc := va_free (wc := []) hD hS hA [] rfl
  refine va_calli (va_runS (As := [.int p1]) (rest := [.ref a1]) ⟨hx, hb, hml, hown, hts⟩ (xcX12_isKind l hst dC dI T s.heap.size p1) (cwS 1 hts gX12_isNoQuestion_X12_isKind rfl rfl rfl (by decide +kernel) ⟨Nat.le_of_ble_eq_true rfl, Nat.le_of_ble_eq_true rfl⟩) ⟨xBlind, xCall hK hG hS hPc hDc hFc⟩ rfl rfl hl.1 rfl (lv_room (Nat.le_of_ble_eq_true rfl)) dX12_isNoQuestion_2 ⟨Nat.le_of_ble_eq_true rfl, Nat.le_of_ble_eq_true rfl⟩) hS (fun q _ h => hFc q h) hFc (fun r_9 u t H locs ht hvm hw hB hz1 hk1 hS => ?_)
  subst hw
  rcases hB with ⟨c_1, hr_9, hP1, hD1⟩ | ⟨c_2, hr_9, hP1, hD1⟩
  · rw [ht] at hP1
    subst hr_9
    obtain ⟨hP, hD⟩ := va_join (wr := [(a1, .inr (17, [.int 0, .ref a2, .ref a3, .ref a4, .long 0])), (a2, .inl (T 2, 12, .inr (.inr (.inr (.inr (fun _ => none))))))]) (w1 := []) hP hD [] [0, 1] rfl rfl (by decide) (by decide) hk1 hFc hP1 hD1
    have hP : va_P (dC, dI) vwCl [(a1, .inr (17, [.int 0, .ref a2, .ref a3, .ref a4, .long 0])), (a2, .inl (T 2, 12, .inr (.inr (.inr (.inr (fun _ => none))))))] H := hP
    have hD : va_D A [(a1, .inr (17, [.int 0, .ref a2, .ref a3, .ref a4, .long 0])), (a2, .inl (T 2, 12, .inr (.inr (.inr (.inr (fun _ => none))))))] := hD
    clear hPc hDc hFc hP1 hD1 hk1 hz1 ht hvm
    refine lv_if_eq (tgt := 19) hx hb dX12_isNoQuestion_5 (by decide) (fun c_3 => absurd c_3 (by decide)) (fun c_3 => ?_)
    refine lv_iload_n hx hb dX12_isNoQuestion_8 rfl (lv_at hl 2 rfl) ?_
    refine lv_iload_n hx hb dX12_isNoQuestion_9 rfl (lv_at hl 3 rfl) ?_
    refine lv_sipush (v := 999) hx hb dX12_isNoQuestion_10 (by decide) ?_
    have hPc := hP.sub (ws' := []) [] rfl
    have hDc := hD.sub (ws' := []) [] (by decide) rfl
    have hFc := va_free (wc := []) hD hS hA [] rfl
    refine va_calli (va_runS (As := [.int p2, .int p3, .int 999]) (rest := [.ref a1]) ⟨hx, hb, hml, hown, hts⟩ (xcX12_isPlace_v2 l hst dC dI T H.size p2 p3) (cwS 3 hts gX12_isNoQuestion_X12_isPlace rfl rfl rfl (by decide +kernel) ⟨Nat.le_of_ble_eq_true rfl, Nat.le_of_ble_eq_true rfl⟩) ⟨xBlind, xCall hK hG hS hPc hDc hFc⟩ rfl rfl hl.1 rfl (lv_room (Nat.le_of_ble_eq_true rfl)) dX12_isNoQuestion_13 ⟨Nat.le_of_ble_eq_true rfl, Nat.le_of_ble_eq_true rfl⟩) hS (fun q _ h => hFc q h) hFc (fun r_9 u t H locs ht hvm hw hB hz1 hk1 hS => ?_)
    subst hw
    rcases hB with ⟨c_4, hr_9, hP1, hD1⟩ | ⟨c_5, hr_9, hP1, hD1⟩
    · have hz_6 : (p2.toInt64).toInt = p2.toInt := Int32.toInt_toInt64 _
      have hz_7 : (p3.toInt64).toInt = p3.toInt := Int32.toInt_toInt64 _
      rw [ht] at hP1
      subst hr_9
      obtain ⟨hP, hD⟩ := va_join (wr := [(a1, .inr (17, [.int 0, .ref a2, .ref a3, .ref a4, .long 0])), (a2, .inl (T 2, 12, .inr (.inr (.inr (.inr (fun _ => none))))))]) (w1 := []) hP hD [] [0, 1] rfl rfl (by decide) (by decide) hk1 hFc hP1 hD1
      have hP : va_P (dC, dI) vwCl [(a1, .inr (17, [.int 0, .ref a2, .ref a3, .ref a4, .long 0])), (a2, .inl (T 2, 12, .inr (.inr (.inr (.inr (fun _ => none))))))] H := hP
      have hD : va_D A [(a1, .inr (17, [.int 0, .ref a2, .ref a3, .ref a4, .long 0])), (a2, .inl (T 2, 12, .inr (.inr (.inr (.inr (fun _ => none))))))] := hD
      clear hPc hDc hFc hP1 hD1 hk1 hz1 ht hvm
      refine lv_if_ne (tgt := 23) hx hb dX12_isNoQuestion_16 (by decide) (fun c_8 => absurd c_8 (by decide)) (fun c_8 => ?_)
      refine lv_iconst (v := 1) hx hb dX12_isNoQuestion_19 (by decide) ?_
      refine lv_goto (tgt := 45) hx hb dX12_isNoQuestion_20 (by decide) ?_
      have hPc := hP.sub (ws' := [(a1, .inr (17, [.int 0, .ref a2, .ref a3, .ref a4, .long 0]))]) [0] rfl
      have hDc := hD.sub (ws' := [(a1, .inr (17, [.int 0, .ref a2, .ref a3, .ref a4, .long 0]))]) [0] (by decide) rfl
      have hFc := va_free (wc := [(a1, .inr (17, [.int 0, .ref a2, .ref a3, .ref a4, .long 0]))]) hD hS hA [0] rfl
      refine va_calli (va_runV (As := [.int 1]) (rest := []) ⟨hx, hb, hml, hown, hts⟩ (xcX12_isWrong l hst dC dI T a1 a2 a3 a4 H.size) (cwV 1 hts gX12_isNoQuestion_X12_isWrong rfl rfl rfl (by decide +kernel) ⟨Nat.le_of_ble_eq_true rfl, Nat.le_of_ble_eq_true rfl⟩) ⟨xBlind, va_recv hK hPc (ci := 17) (q0 := 0) rfl rfl, xCall hK hG hS hPc hDc hFc⟩ rfl rfl hl.1 rfl (lv_room (Nat.le_of_ble_eq_true rfl)) dX12_isNoQuestion_45 ⟨Nat.le_of_ble_eq_true rfl, Nat.le_of_ble_eq_true rfl⟩) hS (fun q _ h => hFc q h) hFc (fun r_9 u t H locs ht hvm hw hB hz1 hk1 hS => ?_)
      subst hw
      rcases hB with ⟨hr_9, hP1, hD1⟩
      rw [ht] at hP1
      subst hr_9
      obtain ⟨hP, hD⟩ := va_join (wr := [(a2, .inl (T 2, 12, .inr (.inr (.inr (.inr (fun _ => none))))))]) (w1 := [(a1, .inr (17, [.int 1, .ref a2, .ref a3, .ref a4, .long 0]))]) hP hD [0] [1] rfl rfl (by decide) (by decide) hk1 hFc hP1 hD1
      have hP := hP.sub (ws' := [(a1, .inr (17, [.int 1, .ref a2, .ref a3, .ref a4, .long 0])), (a2, .inl (T 2, 12, .inr (.inr (.inr (.inr (fun _ => none))))))]) [1, 0] rfl
      have hD := hD.sub (ws' := [(a1, .inr (17, [.int 1, .ref a2, .ref a3, .ref a4, .long 0])), (a2, .inl (T 2, 12, .inr (.inr (.inr (.inr (fun _ => none))))))]) [1, 0] (by decide) rfl
      clear hPc hDc hFc hP1 hD1 hk1 hz1 ht hvm
      have hP9 := hP.sub (ws' := [(a1, .inr (17, [.int 1, .ref a2, .ref a3, .ref a4, .long 0])), (a2, .inl (T 2, 12, .inr (.inr (.inr (.inr (fun _ => none))))))]) [0, 1] rfl
      have hD9 := hD.sub (ws' := [(a1, .inr (17, [.int 1, .ref a2, .ref a3, .ref a4, .long 0])), (a2, .inl (T 2, 12, .inr (.inr (.inr (.inr (fun _ => none))))))]) [0, 1] (by decide) rfl
      exact W.zret (v := 1) hx hb hr (by decide) (fun t ht hW => ⟨⟨_, _, rfl, rfl, (Or.inl ⟨(Or.inl ⟨c_1, c_4⟩), rfl, by rw [ht]; exact hP9, hD9⟩)⟩, hS.F ht⟩) hS.2.2 dX12_isNoQuestion_48
    · have hz_10 : (p2.toInt64).toInt = p2.toInt := Int32.toInt_toInt64 _
      have hz_11 : (p3.toInt64).toInt = p3.toInt := Int32.toInt_toInt64 _
      rw [ht] at hP1
      subst hr_9
      obtain ⟨hP, hD⟩ := va_join (wr := [(a1, .inr (17, [.int 0, .ref a2, .ref a3, .ref a4, .long 0])), (a2, .inl (T 2, 12, .inr (.inr (.inr (.inr (fun _ => none))))))]) (w1 := []) hP hD [] [0, 1] rfl rfl (by decide) (by decide) hk1 hFc hP1 hD1
      have hP : va_P (dC, dI) vwCl [(a1, .inr (17, [.int 0, .ref a2, .ref a3, .ref a4, .long 0])), (a2, .inl (T 2, 12, .inr (.inr (.inr (.inr (fun _ => none))))))] H := hP
      have hD : va_D A [(a1, .inr (17, [.int 0, .ref a2, .ref a3, .ref a4, .long 0])), (a2, .inl (T 2, 12, .inr (.inr (.inr (.inr (fun _ => none))))))] := hD
      clear hPc hDc hFc hP1 hD1 hk1 hz1 ht hvm
      refine lv_if_ne (tgt := 23) hx hb dX12_isNoQuestion_16 (by decide) (fun c_12 => ?_) (fun c_12 => absurd c_12 (by decide))
      refine lv_iload hx hb dX12_isNoQuestion_23 (lv_at hl 4 rfl) ?_
      refine lv_i2l hx hb dX12_isNoQuestion_25 rfl ?_
      refine lv_lconst (v := 0) hx hb dX12_isNoQuestion_26 (by decide) ?_
      refine lv_aload_n hx hb dX12_isNoQuestion_27 rfl (lv_at hl 0 rfl) ?_
      have hPc := hP.sub (ws' := [(a1, .inr (17, [.int 0, .ref a2, .ref a3, .ref a4, .long 0])), (a2, .inl (T 2, 12, .inr (.inr (.inr (.inr (fun _ => none))))))]) [0, 1] rfl
      have hDc := hD.sub (ws' := [(a1, .inr (17, [.int 0, .ref a2, .ref a3, .ref a4, .long 0])), (a2, .inl (T 2, 12, .inr (.inr (.inr (.inr (fun _ => none))))))]) [0, 1] (by decide) rfl
      have hFc := va_free (wc := [(a1, .inr (17, [.int 0, .ref a2, .ref a3, .ref a4, .long 0])), (a2, .inl (T 2, 12, .inr (.inr (.inr (.inr (fun _ => none))))))]) hD hS hA [0, 1] rfl
      refine va_calli (va_runV (As := []) (rest := [.long 0, .long p4.toInt64, .ref a1]) ⟨hx, hb, hml, hown, hts⟩ (xcX12_many l hst dC dI T a1 a2 a3 a4 H.size) (cwV 0 hts gX12_isNoQuestion_X12_many rfl rfl rfl (by decide +kernel) ⟨Nat.le_of_ble_eq_true rfl, Nat.le_of_ble_eq_true rfl⟩) ⟨xBlind, va_recv hK hPc (ci := 17) (q0 := 0) rfl rfl, xCall hK hG hS hPc hDc hFc⟩ rfl rfl hl.1 rfl (lv_room (Nat.le_of_ble_eq_true rfl)) dX12_isNoQuestion_28 ⟨Nat.le_of_ble_eq_true rfl, Nat.le_of_ble_eq_true rfl⟩) hS (fun q _ h => hFc q h) hFc (fun r_9 u t H locs ht hvm hw hB hz1 hk1 hS => ?_)
      subst hw
      rcases hB with ⟨hr_9, hP1, hD1⟩
      rw [ht] at hP1
      subst hr_9
      obtain ⟨hP, hD⟩ := va_join (wr := []) (w1 := [(a1, .inr (17, [.int 0, .ref a2, .ref a3, .ref a4, .long 0])), (a2, .inl (T 2, 12, .inr (.inr (.inr (.inr (fun _ => none))))))]) hP hD [0, 1] [] rfl rfl (by decide) (by decide) hk1 hFc hP1 hD1
      have hP : va_P (dC, dI) vwCl [(a1, .inr (17, [.int 0, .ref a2, .ref a3, .ref a4, .long 0])), (a2, .inl (T 2, 12, .inr (.inr (.inr (.inr (fun _ => none))))))] H := hP
      have hD : va_D A [(a1, .inr (17, [.int 0, .ref a2, .ref a3, .ref a4, .long 0])), (a2, .inl (T 2, 12, .inr (.inr (.inr (.inr (fun _ => none))))))] := hD
      clear hPc hDc hFc hP1 hD1 hk1 hz1 ht hvm
      refine lv_iconst (v := 1) hx hb dX12_isNoQuestion_31 (by decide) ?_
      refine lv_isub hx hb dX12_isNoQuestion_32 ?_
      refine lv_topi (fun f_14 ef_14 => ?_)
      obtain rfl : f_14 = (-1) := ef_14.trans (by decide)
      refine lv_i2l (v := (-1)) hx hb dX12_isNoQuestion_33 (by decide) ?_
      have hPc := hP.sub (ws' := []) [] rfl
      have hDc := hD.sub (ws' := []) [] (by decide) rfl
      have hFc := va_free (wc := []) hD hS hA [] rfl
      refine va_calli (va_runS (As := [.long p4.toInt64, .long 0, .long (-1)]) (rest := [.ref a1]) ⟨hx, hb, hml, hown, hts⟩ (xcX12_isBetween_v4 l hst dC dI T H.size p4.toInt64 (-1)) (cwS 3 hts gX12_isNoQuestion_X12_isBetween rfl rfl rfl (by decide +kernel) ⟨Nat.le_of_ble_eq_true rfl, Nat.le_of_ble_eq_true rfl⟩) ⟨xBlind, xCall hK hG hS hPc hDc hFc⟩ rfl rfl hl.1 rfl (lv_room (Nat.le_of_ble_eq_true rfl)) dX12_isNoQuestion_34 ⟨Nat.le_of_ble_eq_true rfl, Nat.le_of_ble_eq_true rfl⟩) hS (fun q _ h => hFc q h) hFc (fun r_9 u t H locs ht hvm hw hB hz1 hk1 hS => ?_)
      subst hw
      rcases hB with ⟨c_15, hr_9, hP1, hD1⟩ | ⟨c_16, hr_9, hP1, hD1⟩
      · have hz_17 : (p4.toInt64).toInt = p4.toInt := Int32.toInt_toInt64 _
        have hz_18 : ((-1) : Int64).toInt = -1 := by decide +kernel
        rw [ht] at hP1
        subst hr_9
        obtain ⟨hP, hD⟩ := va_join (wr := [(a1, .inr (17, [.int 0, .ref a2, .ref a3, .ref a4, .long 0])), (a2, .inl (T 2, 12, .inr (.inr (.inr (.inr (fun _ => none))))))]) (w1 := []) hP hD [] [0, 1] rfl rfl (by decide) (by decide) hk1 hFc hP1 hD1
        have hP : va_P (dC, dI) vwCl [(a1, .inr (17, [.int 0, .ref a2, .ref a3, .ref a4, .long 0])), (a2, .inl (T 2, 12, .inr (.inr (.inr (.inr (fun _ => none))))))] H := hP
        have hD : va_D A [(a1, .inr (17, [.int 0, .ref a2, .ref a3, .ref a4, .long 0])), (a2, .inl (T 2, 12, .inr (.inr (.inr (.inr (fun _ => none))))))] := hD
        clear hPc hDc hFc hP1 hD1 hk1 hz1 ht hvm
        refine lv_if_eq (tgt := 44) hx hb dX12_isNoQuestion_37 (by decide) (fun c_19 => ?_) (fun c_19 => absurd (by decide) c_19)
        refine lv_iconst (v := 2) hx hb dX12_isNoQuestion_44 (by decide) ?_
        have hPc := hP.sub (ws' := [(a1, .inr (17, [.int 0, .ref a2, .ref a3, .ref a4, .long 0]))]) [0] rfl
        have hDc := hD.sub (ws' := [(a1, .inr (17, [.int 0, .ref a2, .ref a3, .ref a4, .long 0]))]) [0] (by decide) rfl
        have hFc := va_free (wc := [(a1, .inr (17, [.int 0, .ref a2, .ref a3, .ref a4, .long 0]))]) hD hS hA [0] rfl
        refine va_calli (va_runV (As := [.int 2]) (rest := []) ⟨hx, hb, hml, hown, hts⟩ (xcX12_isWrong_v3 l hst dC dI T a1 a2 a3 a4 H.size) (cwV 1 hts gX12_isNoQuestion_X12_isWrong rfl rfl rfl (by decide +kernel) ⟨Nat.le_of_ble_eq_true rfl, Nat.le_of_ble_eq_true rfl⟩) ⟨xBlind, va_recv hK hPc (ci := 17) (q0 := 0) rfl rfl, xCall hK hG hS hPc hDc hFc⟩ rfl rfl hl.1 rfl (lv_room (Nat.le_of_ble_eq_true rfl)) dX12_isNoQuestion_45 ⟨Nat.le_of_ble_eq_true rfl, Nat.le_of_ble_eq_true rfl⟩) hS (fun q _ h => hFc q h) hFc (fun r_9 u t H locs ht hvm hw hB hz1 hk1 hS => ?_)
        subst hw
        rcases hB with ⟨hr_9, hP1, hD1⟩
        rw [ht] at hP1
        subst hr_9
        obtain ⟨hP, hD⟩ := va_join (wr := [(a2, .inl (T 2, 12, .inr (.inr (.inr (.inr (fun _ => none))))))]) (w1 := [(a1, .inr (17, [.int 2, .ref a2, .ref a3, .ref a4, .long 0]))]) hP hD [0] [1] rfl rfl (by decide) (by decide) hk1 hFc hP1 hD1
        have hP := hP.sub (ws' := [(a1, .inr (17, [.int 2, .ref a2, .ref a3, .ref a4, .long 0])), (a2, .inl (T 2, 12, .inr (.inr (.inr (.inr (fun _ => none))))))]) [1, 0] rfl
        have hD := hD.sub (ws' := [(a1, .inr (17, [.int 2, .ref a2, .ref a3, .ref a4, .long 0])), (a2, .inl (T 2, 12, .inr (.inr (.inr (.inr (fun _ => none))))))]) [1, 0] (by decide) rfl
        clear hPc hDc hFc hP1 hD1 hk1 hz1 ht hvm
        have hP9 := hP.sub (ws' := [(a1, .inr (17, [.int 2, .ref a2, .ref a3, .ref a4, .long 0])), (a2, .inl (T 2, 12, .inr (.inr (.inr (.inr (fun _ => none))))))]) [0, 1] rfl
        have hD9 := hD.sub (ws' := [(a1, .inr (17, [.int 2, .ref a2, .ref a3, .ref a4, .long 0])), (a2, .inl (T 2, 12, .inr (.inr (.inr (.inr (fun _ => none))))))]) [0, 1] (by decide) rfl
        exact W.zret (v := 1) hx hb hr (by decide) (fun t ht hW => ⟨⟨_, _, rfl, rfl, (Or.inr (⟨⟨c_1, c_5, c_15⟩, rfl, by rw [ht]; exact hP9, hD9⟩))⟩, hS.F ht⟩) hS.2.2 dX12_isNoQuestion_48
      · have hz_21 : (p4.toInt64).toInt = p4.toInt := Int32.toInt_toInt64 _
        have hz_22 : ((-1) : Int64).toInt = -1 := by decide +kernel
        exact absurd c_16 (by omega)
  · rw [ht] at hP1
    subst hr_9
    obtain ⟨hP, hD⟩ := va_join (wr := [(a1, .inr (17, [.int 0, .ref a2, .ref a3, .ref a4, .long 0])), (a2, .inl (T 2, 12, .inr (.inr (.inr (.inr (fun _ => none))))))]) (w1 := []) hP hD [] [0, 1] rfl rfl (by decide) (by decide) hk1 hFc hP1 hD1
    have hP : va_P (dC, dI) vwCl [(a1, .inr (17, [.int 0, .ref a2, .ref a3, .ref a4, .long 0])), (a2, .inl (T 2, 12, .inr (.inr (.inr (.inr (fun _ => none))))))] H := hP
    have hD : va_D A [(a1, .inr (17, [.int 0, .ref a2, .ref a3, .ref a4, .long 0])), (a2, .inl (T 2, 12, .inr (.inr (.inr (.inr (fun _ => none))))))] := hD
    clear hPc hDc hFc hP1 hD1 hk1 hz1 ht hvm
    refine lv_if_eq (tgt := 19) hx hb dX12_isNoQuestion_5 (by decide) (fun c_23 => ?_) (fun c_23 => absurd (by decide) c_23)
    refine lv_iconst (v := 1) hx hb dX12_isNoQuestion_19 (by decide) ?_
    refine lv_goto (tgt := 45) hx hb dX12_isNoQuestion_20 (by decide) ?_
    have hPc := hP.sub (ws' := [(a1, .inr (17, [.int 0, .ref a2, .ref a3, .ref a4, .long 0]))]) [0] rfl
    have hDc := hD.sub (ws' := [(a1, .inr (17, [.int 0, .ref a2, .ref a3, .ref a4, .long 0]))]) [0] (by decide) rfl
    have hFc := va_free (wc := [(a1, .inr (17, [.int 0, .ref a2, .ref a3, .ref a4, .long 0]))]) hD hS hA [0] rfl
    refine va_calli (va_runV (As := [.int 1]) (rest := []) ⟨hx, hb, hml, hown, hts⟩ (xcX12_isWrong l hst dC dI T a1 a2 a3 a4 H.size) (cwV 1 hts gX12_isNoQuestion_X12_isWrong rfl rfl rfl (by decide +kernel) ⟨Nat.le_of_ble_eq_true rfl, Nat.le_of_ble_eq_true rfl⟩) ⟨xBlind, va_recv hK hPc (ci := 17) (q0 := 0) rfl rfl, xCall hK hG hS hPc hDc hFc⟩ rfl rfl hl.1 rfl (lv_room (Nat.le_of_ble_eq_true rfl)) dX12_isNoQuestion_45 ⟨Nat.le_of_ble_eq_true rfl, Nat.le_of_ble_eq_true rfl⟩) hS (fun q _ h => hFc q h) hFc (fun r_9 u t H locs ht hvm hw hB hz1 hk1 hS => ?_)
    subst hw
    rcases hB with ⟨hr_9, hP1, hD1⟩
    rw [ht] at hP1
    subst hr_9
    obtain ⟨hP, hD⟩ := va_join (wr := [(a2, .inl (T 2, 12, .inr (.inr (.inr (.inr (fun _ => none))))))]) (w1 := [(a1, .inr (17, [.int 1, .ref a2, .ref a3, .ref a4, .long 0]))]) hP hD [0] [1] rfl rfl (by decide) (by decide) hk1 hFc hP1 hD1
    have hP := hP.sub (ws' := [(a1, .inr (17, [.int 1, .ref a2, .ref a3, .ref a4, .long 0])), (a2, .inl (T 2, 12, .inr (.inr (.inr (.inr (fun _ => none))))))]) [1, 0] rfl
    have hD := hD.sub (ws' := [(a1, .inr (17, [.int 1, .ref a2, .ref a3, .ref a4, .long 0])), (a2, .inl (T 2, 12, .inr (.inr (.inr (.inr (fun _ => none))))))]) [1, 0] (by decide) rfl
    clear hPc hDc hFc hP1 hD1 hk1 hz1 ht hvm
    have hP9 := hP.sub (ws' := [(a1, .inr (17, [.int 1, .ref a2, .ref a3, .ref a4, .long 0])), (a2, .inl (T 2, 12, .inr (.inr (.inr (.inr (fun _ => none))))))]) [0, 1] rfl
    have hD9 := hD.sub (ws' := [(a1, .inr (17, [.int 1, .ref a2, .ref a3, .ref a4, .long 0])), (a2, .inl (T 2, 12, .inr (.inr (.inr (.inr (fun _ => none))))))]) [0, 1] (by decide) rfl
    exact W.zret (v := 1) hx hb hr (by decide) (fun t ht hW => ⟨⟨_, _, rfl, rfl, (Or.inl ⟨(Or.inr (c_2)), rfl, by rw [ht]; exact hP9, hD9⟩)⟩, hS.F ht⟩) hS.2.2 dX12_isNoQuestion_48
set_option maxHeartbeats 4000000 in
set_option maxRecDepth 100000 in
theorem xcX12_nearestAt_v2 (l : Launch) (hst : l.stackTraces = false) (dC : Nat → ClassId) (dI : Nat → Nat → Nat) (T : Nat → ClassId) (a1 : Nat) (a2 : Nat) (a3 : Nat) (a4 : Nat) (sz : Nat) (p1 : Int32) (p2 : Int32) (p3 : Int32) (p4 : Int32) : Met l yX12_nearestAt wsX12_nearestAt ({ frames := 3, cells := 0, slots := 0, locals := 71 } : Room) (va_Pc [.ref a1, .int p1, .int p2, .int p3, .int p4] (fun U => xB dC dI T [(a1, .inr (17, [.int 0, .ref a2, .ref a3, .ref a4, .long 0])), (a2, .inl (T 2, 12, .inr (.inr (.inr (.inr (fun _ => none))))))] sz U)) (va_Qi (fun (r u : Int32) => r = u) (fun (u : Int32) (t : State) => (((((p1.toInt = 101) ∨ ((¬ (p1.toInt = 101)) ∧ (p1.toInt = 115)) ∨ ((¬ (p1.toInt = 101)) ∧ (¬ (p1.toInt = 115)) ∧ (p1.toInt = 109)) ∨ ((¬ (p1.toInt = 101)) ∧ (¬ (p1.toInt = 115)) ∧ (¬ (p1.toInt = 109)) ∧ (p1.toInt = 112))) ∧ ((((p2.toInt64).toInt < -999) ∨ ((¬ ((p2.toInt64).toInt < -999)) ∧ (999 < (p2.toInt64).toInt))) ∨ (((¬ ((p2.toInt64).toInt < -999)) ∧ (¬ (999 < (p2.toInt64).toInt))) ∧ (((p3.toInt64).toInt < -999) ∨ ((¬ ((p3.toInt64).toInt < -999)) ∧ (999 < (p3.toInt64).toInt)))))) ∨ ((¬ (p1.toInt = 101)) ∧ (¬ (p1.toInt = 115)) ∧ (¬ (p1.toInt = 109)) ∧ (¬ (p1.toInt = 112)))) ∧ 0 = u ∧ xE dC dI [(a1, .inr (17, [.int 1, .ref a2, .ref a3, .ref a4, .long 0]))] (va_A [(a1, .inr (17, [.int 0, .ref a2, .ref a3, .ref a4, .long 0])), (a2, .inl (T 2, 12, .inr (.inr (.inr (.inr (fun _ => none))))))] sz) t) ∨ ((((p1.toInt = 101) ∨ ((¬ (p1.toInt = 101)) ∧ (p1.toInt = 115)) ∨ ((¬ (p1.toInt = 101)) ∧ (¬ (p1.toInt = 115)) ∧ (p1.toInt = 109)) ∨ ((¬ (p1.toInt = 101)) ∧ (¬ (p1.toInt = 115)) ∧ (¬ (p1.toInt = 109)) ∧ (p1.toInt = 112))) ∧ (((¬ ((p2.toInt64).toInt < -999)) ∧ (¬ (999 < (p2.toInt64).toInt))) ∧ ((¬ ((p3.toInt64).toInt < -999)) ∧ (¬ (999 < (p3.toInt64).toInt)))) ∧ (((p4.toInt64).toInt < 0) ∨ ((¬ ((p4.toInt64).toInt < 0)) ∧ (((-1) : Int64).toInt < (p4.toInt64).toInt)))) ∧ 0 = u ∧ xE dC dI [(a1, .inr (17, [.int 2, .ref a2, .ref a3, .ref a4, .long 0]))] (va_A [(a1, .inr (17, [.int 0, .ref a2, .ref a3, .ref a4, .long 0])), (a2, .inl (T 2, 12, .inr (.inr (.inr (.inr (fun _ => none))))))] sz) t)) (va_A [(a1, .inr (17, [.int 0, .ref a2, .ref a3, .ref a4, .long 0])), (a2, .inl (T 2, 12, .inr (.inr (.inr (.inr (fun _ => none))))))] sz)) 0 0 (va_A [(a1, .inr (17, [.int 0, .ref a2, .ref a3, .ref a4, .long 0])), (a2, .inl (T 2, 12, .inr (.inr (.inr (.inr (fun _ => none))))))] sz) := by
  refine Met.ofW (cc := cX12_nearestAt) (maxL := 5) (ret := (some .int)) (by decide +kernel) rfl ?_
  intro p e s m args below meth c s₁ B hml hv
  obtain ⟨rfl, hsz, hP, hK, hD0, hG⟩ := hv
  have hx := B.exec
  have hb := B.bytes
  have hr := B.returns
  have hts := atoms_spec (ws := wsX12_nearestAt) B.pre
  have hown : s.vm.findClass RX12 = some m.cls := findClass_of_methodNamed B.named
  have hlocks := B.notSynchronized
  subst hsz
  have hD := hD0.self (sz := s.heap.size)
  generalize hAe : va_A [(a1, .inr (17, [.int 0, .ref a2, .ref a3, .ref a4, .long 0])), (a2, .inl (T 2, 12, .inr (.inr (.inr (.inr (fun _ => none))))))] s.heap.size = A at hD hG ⊢
  have hA : ∀ q : Nat, s.heap.size ≤ q → A q := fun q h => by rw [← hAe]; exact Or.inr h
  have hS : va_S A s.heap s.heap [] := va_S.rf
  have hl := lv_entry ([.ref a1, .int p1, .int p2, .int p3, .int p4]) (n := 5) (Nat.le_of_ble_eq_true rfl)
  rw [lg_entry_eq]
  generalize (lg_sl ([.ref a1, .int p1, .int p2, .int p3, .int p4]) ++ List.replicate (5 - (lg_sl ([.ref a1, .int p1, .int p2, .int p3, .int p4])).length) Slot.unset).toArray = ls at hl ⊢
  have hl : lv_has ls 5 [(0, .ref a1), (1, .int p1), (2, .int p2), (3, .int p3), (4, .int p4)] := hl
  refine lv_aload_n hx hb dX12_nearestAt_0 rfl (lv_at hl 0 rfl) ?_
  refine lv_iload_n hx hb dX12_nearestAt_1 rfl (lv_at hl 1 rfl) ?_
  refine lv_iload_n hx hb dX12_nearestAt_2 rfl (lv_at hl 2 rfl) ?_
  refine lv_iload_n hx hb dX12_nearestAt_3 rfl (lv_at hl 3 rfl) ?_
  refine lv_iload hx hb dX12_nearestAt_4 (lv_at hl 4 rfl) ?_
  have hPc := hP.sub (ws' := [(a1, .inr (17, [.int 0, .ref a2, .ref a3, .ref a4, .long 0])), (a2, .inl (T 2, 12, .inr (.inr (.inr (.inr (fun _ => none))))))]) [0, 1] rfl
  have hDc := hD.sub (ws' := [(a1, .inr (17, [.int 0, .ref a2, .ref a3, .ref a4, .long 0])), (a2, .inl (T 2, 12, .inr (.inr (.inr (.inr (fun _ => none))))))]) [0, 1] (by decide) rfl
  have hFc := va_free (wc := [(a1, .inr (17, [.int 0, .ref a2, .ref a3, .ref a4, .long 0])), (a2, .inl (T 2, 12, .inr (.inr (.inr (.inr (fun _ => none))))))]) hD hS hA [0, 1] rfl
  refine va_calli (va_runV (As := [.int p1, .int p2, .int p3, .int p4]) (rest := []) ⟨hx, hb, hml, hown, hts⟩ (xcX12_isNoQuestion_v2 l hst dC dI T a1 a2 a3 a4 s.heap.size p1 p2 p3 p4) (cwV 4 hts gX12_nearestAt_X12_isNoQuestion rfl rfl rfl (by decide +kernel) ⟨Nat.le_of_ble_eq_true rfl, Nat.le_of_ble_eq_true rfl⟩) ⟨xBlind, va_recv hK hPc (ci := 17) (q0 := 0) rfl rfl, xCall hK hG hS hPc hDc hFc⟩ rfl rfl hl.1 rfl (lv_room (Nat.le_of_ble_eq_true rfl)) dX12_nearestAt_6 ⟨Nat.le_of_ble_eq_true rfl, Nat.le_of_ble_eq_true rfl⟩) hS (fun q _ h => hFc q h) hFc (fun r_9 u t H locs ht hvm hw hB hz1 hk1 hS => ?_)
  subst hw
  rcases hB with ⟨c_1, hr_9, hP1, hD1⟩ | ⟨c_2, hr_9, hP1, hD1⟩
  · have hz_3 : (p2.toInt64).toInt = p2.toInt := Int32.toInt_toInt64 _
    have hz_4 : (p3.toInt64).toInt = p3.toInt := Int32.toInt_toInt64 _
    rw [ht] at hP1
    subst hr_9
    obtain ⟨hP, hD⟩ := va_join (wr := []) (w1 := [(a1, .inr (17, [.int 1, .ref a2, .ref a3, .ref a4, .long 0])), (a2, .inl (T 2, 12, .inr (.inr (.inr (.inr (fun _ => none))))))]) hP hD [0, 1] [] rfl rfl (by decide) (by decide) hk1 hFc hP1 hD1
    have hP : va_P (dC, dI) vwCl [(a1, .inr (17, [.int 1, .ref a2, .ref a3, .ref a4, .long 0])), (a2, .inl (T 2, 12, .inr (.inr (.inr (.inr (fun _ => none))))))] H := hP
    have hD : va_D A [(a1, .inr (17, [.int 1, .ref a2, .ref a3, .ref a4, .long 0])), (a2, .inl (T 2, 12, .inr (.inr (.inr (.inr (fun _ => none))))))] := hD
    clear hPc hDc hFc hP1 hD1 hk1 hz1 ht hvm
    refine lv_if_eq (tgt := 16) hx hb dX12_nearestAt_9 (by decide) (fun c_5 => absurd c_5 (by decide)) (fun c_5 => ?_)
    refine lv_iconst (v := 0) hx hb dX12_nearestAt_12 (by decide) ?_
    refine lv_goto (tgt := 26) hx hb dX12_nearestAt_13 (by decide) ?_
    have hP9 := hP.sub (ws' := [(a1, .inr (17, [.int 1, .ref a2, .ref a3, .ref a4, .long 0]))]) [0] rfl
    have hD9 := hD.sub (ws' := [(a1, .inr (17, [.int 1, .ref a2, .ref a3, .ref a4, .long 0]))]) [0] (by decide) rfl
    exact W.iret (v := 0) hx hb hr (fun t ht hW => ⟨⟨_, _, rfl, rfl, (Or.inl ⟨c_1, rfl, by rw [ht]; exact hP9, hD9⟩)⟩, hS.F ht⟩) hS.2.2 dX12_nearestAt_26
  · have hz_6 : (p2.toInt64).toInt = p2.toInt := Int32.toInt_toInt64 _
    have hz_7 : (p3.toInt64).toInt = p3.toInt := Int32.toInt_toInt64 _
    have hz_8 : (p4.toInt64).toInt = p4.toInt := Int32.toInt_toInt64 _
    have hz_9 : ((-1) : Int64).toInt = -1 := by decide +kernel
    rw [ht] at hP1
    subst hr_9
    obtain ⟨hP, hD⟩ := va_join (wr := []) (w1 := [(a1, .inr (17, [.int 2, .ref a2, .ref a3, .ref a4, .long 0])), (a2, .inl (T 2, 12, .inr (.inr (.inr (.inr (fun _ => none))))))]) hP hD [0, 1] [] rfl rfl (by decide) (by decide) hk1 hFc hP1 hD1
    have hP : va_P (dC, dI) vwCl [(a1, .inr (17, [.int 2, .ref a2, .ref a3, .ref a4, .long 0])), (a2, .inl (T 2, 12, .inr (.inr (.inr (.inr (fun _ => none))))))] H := hP
    have hD : va_D A [(a1, .inr (17, [.int 2, .ref a2, .ref a3, .ref a4, .long 0])), (a2, .inl (T 2, 12, .inr (.inr (.inr (.inr (fun _ => none))))))] := hD
    clear hPc hDc hFc hP1 hD1 hk1 hz1 ht hvm
    refine lv_if_eq (tgt := 16) hx hb dX12_nearestAt_9 (by decide) (fun c_10 => absurd c_10 (by decide)) (fun c_10 => ?_)
    refine lv_iconst (v := 0) hx hb dX12_nearestAt_12 (by decide) ?_
    refine lv_goto (tgt := 26) hx hb dX12_nearestAt_13 (by decide) ?_
    have hP9 := hP.sub (ws' := [(a1, .inr (17, [.int 2, .ref a2, .ref a3, .ref a4, .long 0]))]) [0] rfl
    have hD9 := hD.sub (ws' := [(a1, .inr (17, [.int 2, .ref a2, .ref a3, .ref a4, .long 0]))]) [0] (by decide) rfl
    exact W.iret (v := 0) hx hb hr (fun t ht hW => ⟨⟨_, _, rfl, rfl, (Or.inr (⟨c_2, rfl, by rw [ht]; exact hP9, hD9⟩))⟩, hS.F ht⟩) hS.2.2 dX12_nearestAt_26
set_option maxHeartbeats 4000000 in
set_option maxRecDepth 100000 in
theorem xcX12_nearness_ (l : Launch) (hst : l.stackTraces = false) (dC : Nat → ClassId) (dI : Nat → Nat → Nat) (T : Nat → ClassId) (a1 : Nat) (a2 : Nat) (a3 : Nat) (a4 : Nat) (sz : Nat) (p1 : Int32) (p2 : Int32) (p3 : Int32) : Met l yX12_nearness_ wsX12_nearness_ ({ frames := 3, cells := 0, slots := 0, locals := 71 } : Room) (va_Pc [.ref a1, .int p1, .int p2, .int p3] (fun U => xB dC dI T [(a1, .inr (17, [.int 0, .ref a2, .ref a3, .ref a4, .long 0])), (a2, .inl (T 2, 12, .inr (.inr (.inr (.inr (fun _ => none))))))] sz U)) (va_Qi (fun (r u : Int32) => r = u) (fun (u : Int32) (t : State) => (((((p1.toInt = 101) ∨ ((¬ (p1.toInt = 101)) ∧ (p1.toInt = 115)) ∨ ((¬ (p1.toInt = 101)) ∧ (¬ (p1.toInt = 115)) ∧ (p1.toInt = 109)) ∨ ((¬ (p1.toInt = 101)) ∧ (¬ (p1.toInt = 115)) ∧ (¬ (p1.toInt = 109)) ∧ (p1.toInt = 112))) ∧ ((((p2.toInt64).toInt < -999) ∨ ((¬ ((p2.toInt64).toInt < -999)) ∧ (999 < (p2.toInt64).toInt))) ∨ (((¬ ((p2.toInt64).toInt < -999)) ∧ (¬ (999 < (p2.toInt64).toInt))) ∧ (((p3.toInt64).toInt < -999) ∨ ((¬ ((p3.toInt64).toInt < -999)) ∧ (999 < (p3.toInt64).toInt)))))) ∨ ((¬ (p1.toInt = 101)) ∧ (¬ (p1.toInt = 115)) ∧ (¬ (p1.toInt = 109)) ∧ (¬ (p1.toInt = 112)))) ∧ 0 = u ∧ xE dC dI [(a1, .inr (17, [.int 1, .ref a2, .ref a3, .ref a4, .long 0]))] (va_A [(a1, .inr (17, [.int 0, .ref a2, .ref a3, .ref a4, .long 0])), (a2, .inl (T 2, 12, .inr (.inr (.inr (.inr (fun _ => none))))))] sz) t) ∨ ((((p1.toInt = 101) ∨ ((¬ (p1.toInt = 101)) ∧ (p1.toInt = 115)) ∨ ((¬ (p1.toInt = 101)) ∧ (¬ (p1.toInt = 115)) ∧ (p1.toInt = 109)) ∨ ((¬ (p1.toInt = 101)) ∧ (¬ (p1.toInt = 115)) ∧ (¬ (p1.toInt = 109)) ∧ (p1.toInt = 112))) ∧ (((¬ ((p2.toInt64).toInt < -999)) ∧ (¬ (999 < (p2.toInt64).toInt))) ∧ ((¬ ((p3.toInt64).toInt < -999)) ∧ (¬ (999 < (p3.toInt64).toInt))))) ∧ 0 = u ∧ xE dC dI [(a1, .inr (17, [.int 2, .ref a2, .ref a3, .ref a4, .long 0]))] (va_A [(a1, .inr (17, [.int 0, .ref a2, .ref a3, .ref a4, .long 0])), (a2, .inl (T 2, 12, .inr (.inr (.inr (.inr (fun _ => none))))))] sz) t)) (va_A [(a1, .inr (17, [.int 0, .ref a2, .ref a3, .ref a4, .long 0])), (a2, .inl (T 2, 12, .inr (.inr (.inr (.inr (fun _ => none))))))] sz)) 0 0 (va_A [(a1, .inr (17, [.int 0, .ref a2, .ref a3, .ref a4, .long 0])), (a2, .inl (T 2, 12, .inr (.inr (.inr (.inr (fun _ => none))))))] sz) := by
  refine Met.ofW (cc := cX12_nearness_) (maxL := 4) (ret := (some .int)) (by decide +kernel) rfl ?_
  intro p e s m args below meth c s₁ B hml hv
  obtain ⟨rfl, hsz, hP, hK, hD0, hG⟩ := hv
  have hx := B.exec
  have hb := B.bytes
  have hr := B.returns
  have hts := atoms_spec (ws := wsX12_nearness_) B.pre
  have hown : s.vm.findClass RX12 = some m.cls := findClass_of_methodNamed B.named
  have hlocks := B.notSynchronized
  subst hsz
  have hD := hD0.self (sz := s.heap.size)
  generalize hAe : va_A [(a1, .inr (17, [.int 0, .ref a2, .ref a3, .ref a4, .long 0])), (a2, .inl (T 2, 12, .inr (.inr (.inr (.inr (fun _ => none))))))] s.heap.size = A at hD hG ⊢
  have hA : ∀ q : Nat, s.heap.size ≤ q → A q := fun q h => by rw [← hAe]; exact Or.inr h
  have hS : va_S A s.heap s.heap [] := va_S.rf
  have hl := lv_entry ([.ref a1, .int p1, .int p2, .int p3]) (n := 4) (Nat.le_of_ble_eq_true rfl)
  rw [lg_entry_eq]
  generalize (lg_sl ([.ref a1, .int p1, .int p2, .int p3]) ++ List.replicate (4 - (lg_sl ([.ref a1, .int p1, .int p2, .int p3])).length) Slot.unset).toArray = ls at hl ⊢
  have hl : lv_has ls 4 [(0, .ref a1), (1, .int p1), (2, .int p2), (3, .int p3)] := hl
  refine lv_aload_n hx hb dX12_nearness__0 rfl (lv_at hl 0 rfl) ?_
  refine lv_iload_n hx hb dX12_nearness__1 rfl (lv_at hl 1 rfl) ?_
  refine lv_iload_n hx hb dX12_nearness__2 rfl (lv_at hl 2 rfl) ?_
  refine lv_iload_n hx hb dX12_nearness__3 rfl (lv_at hl 3 rfl) ?_
  refine lv_iconst (v := 0) hx hb dX12_nearness__4 (by decide) ?_
  have hPc := hP.sub (ws' := [(a1, .inr (17, [.int 0, .ref a2, .ref a3, .ref a4, .long 0])), (a2, .inl (T 2, 12, .inr (.inr (.inr (.inr (fun _ => none))))))]) [0, 1] rfl
  have hDc := hD.sub (ws' := [(a1, .inr (17, [.int 0, .ref a2, .ref a3, .ref a4, .long 0])), (a2, .inl (T 2, 12, .inr (.inr (.inr (.inr (fun _ => none))))))]) [0, 1] (by decide) rfl
  have hFc := va_free (wc := [(a1, .inr (17, [.int 0, .ref a2, .ref a3, .ref a4, .long 0])), (a2, .inl (T 2, 12, .inr (.inr (.inr (.inr (fun _ => none))))))]) hD hS hA [0, 1] rfl
  refine va_calli (va_runV (As := [.int p1, .int p2, .int p3, .int 0]) (rest := []) ⟨hx, hb, hml, hown, hts⟩ (xcX12_isNoQuestion l hst dC dI T a1 a2 a3 a4 s.heap.size p1 p2 p3) (cwV 4 hts gX12_nearness__X12_isNoQuestion rfl rfl rfl (by decide +kernel) ⟨Nat.le_of_ble_eq_true rfl, Nat.le_of_ble_eq_true rfl⟩) ⟨xBlind, va_recv hK hPc (ci := 17) (q0 := 0) rfl rfl, xCall hK hG hS hPc hDc hFc⟩ rfl rfl hl.1 rfl (lv_room (Nat.le_of_ble_eq_true rfl)) dX12_nearness__5 ⟨Nat.le_of_ble_eq_true rfl, Nat.le_of_ble_eq_true rfl⟩) hS (fun q _ h => hFc q h) hFc (fun r_9 u t H locs ht hvm hw hB hz1 hk1 hS => ?_)
  subst hw
  rcases hB with ⟨c_1, hr_9, hP1, hD1⟩ | ⟨c_2, hr_9, hP1, hD1⟩
  · have hz_3 : (p2.toInt64).toInt = p2.toInt := Int32.toInt_toInt64 _
    have hz_4 : (p3.toInt64).toInt = p3.toInt := Int32.toInt_toInt64 _
    rw [ht] at hP1
    subst hr_9
    obtain ⟨hP, hD⟩ := va_join (wr := []) (w1 := [(a1, .inr (17, [.int 1, .ref a2, .ref a3, .ref a4, .long 0])), (a2, .inl (T 2, 12, .inr (.inr (.inr (.inr (fun _ => none))))))]) hP hD [0, 1] [] rfl rfl (by decide) (by decide) hk1 hFc hP1 hD1
    have hP : va_P (dC, dI) vwCl [(a1, .inr (17, [.int 1, .ref a2, .ref a3, .ref a4, .long 0])), (a2, .inl (T 2, 12, .inr (.inr (.inr (.inr (fun _ => none))))))] H := hP
    have hD : va_D A [(a1, .inr (17, [.int 1, .ref a2, .ref a3, .ref a4, .long 0])), (a2, .inl (T 2, 12, .inr (.inr (.inr (.inr (fun _ => none))))))] := hD
    clear hPc hDc hFc hP1 hD1 hk1 hz1 ht hvm
    refine lv_if_eq (tgt := 15) hx hb dX12_nearness__8 (by decide) (fun c_5 => absurd c_5 (by decide)) (fun c_5 => ?_)
    refine lv_iconst (v := 0) hx hb dX12_nearness__11 (by decide) ?_
    refine lv_goto (tgt := 36) hx hb dX12_nearness__12 (by decide) ?_
    have hP9 := hP.sub (ws' := [(a1, .inr (17, [.int 1, .ref a2, .ref a3, .ref a4, .long 0]))]) [0] rfl
    have hD9 := hD.sub (ws' := [(a1, .inr (17, [.int 1, .ref a2, .ref a3, .ref a4, .long 0]))]) [0] (by decide) rfl
    exact W.iret (v := 0) hx hb hr (fun t ht hW => ⟨⟨_, _, rfl, rfl, (Or.inl ⟨c_1, rfl, by rw [ht]; exact hP9, hD9⟩)⟩, hS.F ht⟩) hS.2.2 dX12_nearness__36
  · have hz_6 : (p2.toInt64).toInt = p2.toInt := Int32.toInt_toInt64 _
    have hz_7 : (p3.toInt64).toInt = p3.toInt := Int32.toInt_toInt64 _
    rw [ht] at hP1
    subst hr_9
    obtain ⟨hP, hD⟩ := va_join (wr := []) (w1 := [(a1, .inr (17, [.int 2, .ref a2, .ref a3, .ref a4, .long 0])), (a2, .inl (T 2, 12, .inr (.inr (.inr (.inr (fun _ => none))))))]) hP hD [0, 1] [] rfl rfl (by decide) (by decide) hk1 hFc hP1 hD1
    have hP : va_P (dC, dI) vwCl [(a1, .inr (17, [.int 2, .ref a2, .ref a3, .ref a4, .long 0])), (a2, .inl (T 2, 12, .inr (.inr (.inr (.inr (fun _ => none))))))] H := hP
    have hD : va_D A [(a1, .inr (17, [.int 2, .ref a2, .ref a3, .ref a4, .long 0])), (a2, .inl (T 2, 12, .inr (.inr (.inr (.inr (fun _ => none))))))] := hD
    clear hPc hDc hFc hP1 hD1 hk1 hz1 ht hvm
    refine lv_if_eq (tgt := 15) hx hb dX12_nearness__8 (by decide) (fun c_8 => absurd c_8 (by decide)) (fun c_8 => ?_)
    refine lv_iconst (v := 0) hx hb dX12_nearness__11 (by decide) ?_
    refine lv_goto (tgt := 36) hx hb dX12_nearness__12 (by decide) ?_
    have hP9 := hP.sub (ws' := [(a1, .inr (17, [.int 2, .ref a2, .ref a3, .ref a4, .long 0]))]) [0] rfl
    have hD9 := hD.sub (ws' := [(a1, .inr (17, [.int 2, .ref a2, .ref a3, .ref a4, .long 0]))]) [0] (by decide) rfl
    exact W.iret (v := 0) hx hb hr (fun t ht hW => ⟨⟨_, _, rfl, rfl, (Or.inr (⟨c_2, rfl, by rw [ht]; exact hP9, hD9⟩))⟩, hS.F ht⟩) hS.2.2 dX12_nearness__36
set_option maxHeartbeats 4000000 in
set_option maxRecDepth 100000 in
theorem xcX12_isNoChange (l : Launch) (hst : l.stackTraces = false) (dC : Nat → ClassId) (dI : Nat → Nat → Nat) (T : Nat → ClassId) (a1 : Nat) (a2 : Nat) (a3 : Nat) (a4 : Nat) (sz : Nat) (p1 : Int32) (p2 : Int32) : Met l yX12_isNoChange wsX12_isNoChange ({ frames := 2, cells := 0, slots := 0, locals := 47 } : Room) (va_Pc [.ref a1, .int p1, .int p2] (fun U => xB dC dI T [(a1, .inr (17, [.int 0, .ref a2, .ref a3, .ref a4, .long 0])), (a2, .inl (T 2, 12, .inr (.inr (.inr (.inr (fun _ => none))))))] sz U)) (va_Qi (fun (r u : Int32) => r = u) (fun (u : Int32) (t : State) => (((((p1.toInt64).toInt < -100) ∨ ((¬ ((p1.toInt64).toInt < -100)) ∧ (100 < (p1.toInt64).toInt))) ∨ (((¬ ((p1.toInt64).toInt < -100)) ∧ (¬ (100 < (p1.toInt64).toInt))) ∧ (((p2.toInt64).toInt < -100) ∨ ((¬ ((p2.toInt64).toInt < -100)) ∧ (100 < (p2.toInt64).toInt))))) ∧ 1 = u ∧ xE dC dI [(a1, .inr (17, [.int 1, .ref a2, .ref a3, .ref a4, .long 0])), (a2, .inl (T 2, 12, .inr (.inr (.inr (.inr (fun _ => none))))))] (va_A [(a1, .inr (17, [.int 0, .ref a2, .ref a3, .ref a4, .long 0])), (a2, .inl (T 2, 12, .inr (.inr (.inr (.inr (fun _ => none))))))] sz) t) ∨ ((((¬ ((p1.toInt64).toInt < -100)) ∧ (¬ (100 < (p1.toInt64).toInt))) ∧ ((¬ ((p2.toInt64).toInt < -100)) ∧ (¬ (100 < (p2.toInt64).toInt)))) ∧ 1 = u ∧ xE dC dI [(a1, .inr (17, [.int 2, .ref a2, .ref a3, .ref a4, .long 0])), (a2, .inl (T 2, 12, .inr (.inr (.inr (.inr (fun _ => none))))))] (va_A [(a1, .inr (17, [.int 0, .ref a2, .ref a3, .ref a4, .long 0])), (a2, .inl (T 2, 12, .inr (.inr (.inr (.inr (fun _ => none))))))] sz) t)) (va_A [(a1, .inr (17, [.int 0, .ref a2, .ref a3, .ref a4, .long 0])), (a2, .inl (T 2, 12, .inr (.inr (.inr (.inr (fun _ => none))))))] sz)) 0 0 (va_A [(a1, .inr (17, [.int 0, .ref a2, .ref a3, .ref a4, .long 0])), (a2, .inl (T 2, 12, .inr (.inr (.inr (.inr (fun _ => none))))))] sz) := by
  refine Met.ofW (cc := cX12_isNoChange) (maxL := 3) (ret := (some .boolean)) (by decide +kernel) rfl ?_
  intro p e s m args below meth c s₁ B hml hv
  obtain ⟨rfl, hsz, hP, hK, hD0, hG⟩ := hv
  have hx := B.exec
  have hb := B.bytes
  have hr := B.returns
  have hts := atoms_spec (ws := wsX12_isNoChange) B.pre
  have hown : s.vm.findClass RX12 = some m.cls := findClass_of_methodNamed B.named
  have hlocks := B.notSynchronized
  subst hsz
  have hD := hD0.self (sz := s.heap.size)
  generalize hAe : va_A [(a1, .inr (17, [.int 0, .ref a2, .ref a3, .ref a4, .long 0])), (a2, .inl (T 2, 12, .inr (.inr (.inr (.inr (fun _ => none))))))] s.heap.size = A at hD hG ⊢
  have hA : ∀ q : Nat, s.heap.size ≤ q → A q := fun q h => by rw [← hAe]; exact Or.inr h
  have hS : va_S A s.heap s.heap [] := va_S.rf
  have hl := lv_entry ([.ref a1, .int p1, .int p2]) (n := 3) (Nat.le_of_ble_eq_true rfl)
  rw [lg_entry_eq]
  generalize (lg_sl ([.ref a1, .int p1, .int p2]) ++ List.replicate (3 - (lg_sl ([.ref a1, .int p1, .int p2])).length) Slot.unset).toArray = ls at hl ⊢
  have hl : lv_has ls 3 [(0, .ref a1), (1, .int p1), (2, .int p2)] := hl
  refine lv_aload_n hx hb dX12_isNoChange_0 rfl (lv_at hl 0 rfl) ?_
  refine lv_iload_n hx hb dX12_isNoChange_1 rfl (lv_at hl 1 rfl) ?_
  refine lv_iload_n hx hb dX12_isNoChange_2 rfl (lv_at hl 2 rfl) ?_
  refine lv_bipush (v := 100) hx hb dX12_isNoChange_3 (by decide) ?_
  have hPc := hP.sub (ws' := []) [] rfl
  have hDc := hD.sub (ws' := []) [] (by decide) rfl
  have hFc := va_free (wc := []) hD hS hA [] rfl
  refine va_calli (va_runS (As := [.int p1, .int p2, .int 100]) (rest := [.ref a1]) ⟨hx, hb, hml, hown, hts⟩ (xcX12_isPlace l hst dC dI T s.heap.size p1 p2) (cwS 3 hts gX12_isNoChange_X12_isPlace rfl rfl rfl (by decide +kernel) ⟨Nat.le_of_ble_eq_true rfl, Nat.le_of_ble_eq_true rfl⟩) ⟨xBlind, xCall hK hG hS hPc hDc hFc⟩ rfl rfl hl.1 rfl (lv_room (Nat.le_of_ble_eq_true rfl)) dX12_isNoChange_5 ⟨Nat.le_of_ble_eq_true rfl, Nat.le_of_ble_eq_true rfl⟩) hS (fun q _ h => hFc q h) hFc (fun r_9 u t H locs ht hvm hw hB hz1 hk1 hS => ?_)
  subst hw
  rcases hB with ⟨c_1, hr_9, hP1, hD1⟩ | ⟨c_2, hr_9, hP1, hD1⟩
  · have hz_3 : (p1.toInt64).toInt = p1.toInt := Int32.toInt_toInt64 _
    have hz_4 : (p2.toInt64).toInt = p2.toInt := Int32.toInt_toInt64 _
    rw [ht] at hP1
    subst hr_9
    obtain ⟨hP, hD⟩ := va_join (wr := [(a1, .inr (17, [.int 0, .ref a2, .ref a3, .ref a4, .long 0])), (a2, .inl (T 2, 12, .inr (.inr (.inr (.inr (fun _ => none))))))]) (w1 := []) hP hD [] [0, 1] rfl rfl (by decide) (by decide) hk1 hFc hP1 hD1
    have hP : va_P (dC, dI) vwCl [(a1, .inr (17, [.int 0, .ref a2, .ref a3, .ref a4, .long 0])), (a2, .inl (T 2, 12, .inr (.inr (.inr (.inr (fun _ => none))))))] H := hP
    have hD : va_D A [(a1, .inr (17, [.int 0, .ref a2, .ref a3, .ref a4, .long 0])), (a2, .inl (T 2, 12, .inr (.inr (.inr (.inr (fun _ => none))))))] := hD
    clear hPc hDc hFc hP1 hD1 hk1 hz1 ht hvm
    refine lv_if_ne (tgt := 15) hx hb dX12_isNoChange_8 (by decide) (fun c_5 => absurd c_5 (by decide)) (fun c_5 => ?_)
    refine lv_iconst (v := 1) hx hb dX12_isNoChange_11 (by decide) ?_
    refine lv_goto (tgt := 37) hx hb dX12_isNoChange_12 (by decide) ?_
    have hPc := hP.sub (ws' := [(a1, .inr (17, [.int 0, .ref a2, .ref a3, .ref a4, .long 0]))]) [0] rfl
    have hDc := hD.sub (ws' := [(a1, .inr (17, [.int 0, .ref a2, .ref a3, .ref a4, .long 0]))]) [0] (by decide) rfl
    have hFc := va_free (wc := [(a1, .inr (17, [.int 0, .ref a2, .ref a3, .ref a4, .long 0]))]) hD hS hA [0] rfl
    refine va_calli (va_runV (As := [.int 1]) (rest := []) ⟨hx, hb, hml, hown, hts⟩ (xcX12_isWrong l hst dC dI T a1 a2 a3 a4 H.size) (cwV 1 hts gX12_isNoChange_X12_isWrong rfl rfl rfl (by decide +kernel) ⟨Nat.le_of_ble_eq_true rfl, Nat.le_of_ble_eq_true rfl⟩) ⟨xBlind, va_recv hK hPc (ci := 17) (q0 := 0) rfl rfl, xCall hK hG hS hPc hDc hFc⟩ rfl rfl hl.1 rfl (lv_room (Nat.le_of_ble_eq_true rfl)) dX12_isNoChange_37 ⟨Nat.le_of_ble_eq_true rfl, Nat.le_of_ble_eq_true rfl⟩) hS (fun q _ h => hFc q h) hFc (fun r_9 u t H locs ht hvm hw hB hz1 hk1 hS => ?_)
    subst hw
    rcases hB with ⟨hr_9, hP1, hD1⟩
    rw [ht] at hP1
    subst hr_9
    obtain ⟨hP, hD⟩ := va_join (wr := [(a2, .inl (T 2, 12, .inr (.inr (.inr (.inr (fun _ => none))))))]) (w1 := [(a1, .inr (17, [.int 1, .ref a2, .ref a3, .ref a4, .long 0]))]) hP hD [0] [1] rfl rfl (by decide) (by decide) hk1 hFc hP1 hD1
    have hP := hP.sub (ws' := [(a1, .inr (17, [.int 1, .ref a2, .ref a3, .ref a4, .long 0])), (a2, .inl (T 2, 12, .inr (.inr (.inr (.inr (fun _ => none))))))]) [1, 0] rfl
    have hD := hD.sub (ws' := [(a1, .inr (17, [.int 1, .ref a2, .ref a3, .ref a4, .long 0])), (a2, .inl (T 2, 12, .inr (.inr (.inr (.inr (fun _ => none))))))]) [1, 0] (by decide) rfl
    clear hPc hDc hFc hP1 hD1 hk1 hz1 ht hvm
    have hP9 := hP.sub (ws' := [(a1, .inr (17, [.int 1, .ref a2, .ref a3, .ref a4, .long 0])), (a2, .inl (T 2, 12, .inr (.inr (.inr (.inr (fun _ => none))))))]) [0, 1] rfl
    have hD9 := hD.sub (ws' := [(a1, .inr (17, [.int 1, .ref a2, .ref a3, .ref a4, .long 0])), (a2, .inl (T 2, 12, .inr (.inr (.inr (.inr (fun _ => none))))))]) [0, 1] (by decide) rfl
    exact W.zret (v := 1) hx hb hr (by decide) (fun t ht hW => ⟨⟨_, _, rfl, rfl, (Or.inl ⟨c_1, rfl, by rw [ht]; exact hP9, hD9⟩)⟩, hS.F ht⟩) hS.2.2 dX12_isNoChange_40
  · have hz_7 : (p1.toInt64).toInt = p1.toInt := Int32.toInt_toInt64 _
    have hz_8 : (p2.toInt64).toInt = p2.toInt := Int32.toInt_toInt64 _
    rw [ht] at hP1
    subst hr_9
    obtain ⟨hP, hD⟩ := va_join (wr := [(a1, .inr (17, [.int 0, .ref a2, .ref a3, .ref a4, .long 0])), (a2, .inl (T 2, 12, .inr (.inr (.inr (.inr (fun _ => none))))))]) (w1 := []) hP hD [] [0, 1] rfl rfl (by decide) (by decide) hk1 hFc hP1 hD1
    have hP : va_P (dC, dI) vwCl [(a1, .inr (17, [.int 0, .ref a2, .ref a3, .ref a4, .long 0])), (a2, .inl (T 2, 12, .inr (.inr (.inr (.inr (fun _ => none))))))] H := hP
    have hD : va_D A [(a1, .inr (17, [.int 0, .ref a2, .ref a3, .ref a4, .long 0])), (a2, .inl (T 2, 12, .inr (.inr (.inr (.inr (fun _ => none))))))] := hD
    clear hPc hDc hFc hP1 hD1 hk1 hz1 ht hvm
    refine lv_if_ne (tgt := 15) hx hb dX12_isNoChange_8 (by decide) (fun c_9 => ?_) (fun c_9 => absurd c_9 (by decide))
    refine lv_aload_n hx hb dX12_isNoChange_15 rfl (lv_at hl 0 rfl) ?_
    have hPc := hP.sub (ws' := [(a1, .inr (17, [.int 0, .ref a2, .ref a3, .ref a4, .long 0])), (a2, .inl (T 2, 12, .inr (.inr (.inr (.inr (fun _ => none))))))]) [0, 1] rfl
    have hDc := hD.sub (ws' := [(a1, .inr (17, [.int 0, .ref a2, .ref a3, .ref a4, .long 0])), (a2, .inl (T 2, 12, .inr (.inr (.inr (.inr (fun _ => none))))))]) [0, 1] (by decide) rfl
    have hFc := va_free (wc := [(a1, .inr (17, [.int 0, .ref a2, .ref a3, .ref a4, .long 0])), (a2, .inl (T 2, 12, .inr (.inr (.inr (.inr (fun _ => none))))))]) hD hS hA [0, 1] rfl
    refine va_calli (va_runV (As := []) (rest := [.ref a1]) ⟨hx, hb, hml, hown, hts⟩ (xcX12_many l hst dC dI T a1 a2 a3 a4 H.size) (cwV 0 hts gX12_isNoChange_X12_many rfl rfl rfl (by decide +kernel) ⟨Nat.le_of_ble_eq_true rfl, Nat.le_of_ble_eq_true rfl⟩) ⟨xBlind, va_recv hK hPc (ci := 17) (q0 := 0) rfl rfl, xCall hK hG hS hPc hDc hFc⟩ rfl rfl hl.1 rfl (lv_room (Nat.le_of_ble_eq_true rfl)) dX12_isNoChange_16 ⟨Nat.le_of_ble_eq_true rfl, Nat.le_of_ble_eq_true rfl⟩) hS (fun q _ h => hFc q h) hFc (fun r_9 u t H locs ht hvm hw hB hz1 hk1 hS => ?_)
    subst hw
    rcases hB with ⟨hr_9, hP1, hD1⟩
    rw [ht] at hP1
    subst hr_9
    obtain ⟨hP, hD⟩ := va_join (wr := []) (w1 := [(a1, .inr (17, [.int 0, .ref a2, .ref a3, .ref a4, .long 0])), (a2, .inl (T 2, 12, .inr (.inr (.inr (.inr (fun _ => none))))))]) hP hD [0, 1] [] rfl rfl (by decide) (by decide) hk1 hFc hP1 hD1
    have hP : va_P (dC, dI) vwCl [(a1, .inr (17, [.int 0, .ref a2, .ref a3, .ref a4, .long 0])), (a2, .inl (T 2, 12, .inr (.inr (.inr (.inr (fun _ => none))))))] H := hP
    have hD : va_D A [(a1, .inr (17, [.int 0, .ref a2, .ref a3, .ref a4, .long 0])), (a2, .inl (T 2, 12, .inr (.inr (.inr (.inr (fun _ => none))))))] := hD
    clear hPc hDc hFc hP1 hD1 hk1 hz1 ht hvm
    refine lv_if_eq (tgt := 32) hx hb dX12_isNoChange_19 (by decide) (fun c_11 => ?_) (fun c_11 => absurd (by decide) c_11)
    refine lv_iconst (v := 2) hx hb dX12_isNoChange_32 (by decide) ?_
    refine lv_goto (tgt := 37) hx hb dX12_isNoChange_33 (by decide) ?_
    have hPc := hP.sub (ws' := [(a1, .inr (17, [.int 0, .ref a2, .ref a3, .ref a4, .long 0]))]) [0] rfl
    have hDc := hD.sub (ws' := [(a1, .inr (17, [.int 0, .ref a2, .ref a3, .ref a4, .long 0]))]) [0] (by decide) rfl
    have hFc := va_free (wc := [(a1, .inr (17, [.int 0, .ref a2, .ref a3, .ref a4, .long 0]))]) hD hS hA [0] rfl
    refine va_calli (va_runV (As := [.int 2]) (rest := []) ⟨hx, hb, hml, hown, hts⟩ (xcX12_isWrong_v3 l hst dC dI T a1 a2 a3 a4 H.size) (cwV 1 hts gX12_isNoChange_X12_isWrong rfl rfl rfl (by decide +kernel) ⟨Nat.le_of_ble_eq_true rfl, Nat.le_of_ble_eq_true rfl⟩) ⟨xBlind, va_recv hK hPc (ci := 17) (q0 := 0) rfl rfl, xCall hK hG hS hPc hDc hFc⟩ rfl rfl hl.1 rfl (lv_room (Nat.le_of_ble_eq_true rfl)) dX12_isNoChange_37 ⟨Nat.le_of_ble_eq_true rfl, Nat.le_of_ble_eq_true rfl⟩) hS (fun q _ h => hFc q h) hFc (fun r_9 u t H locs ht hvm hw hB hz1 hk1 hS => ?_)
    subst hw
    rcases hB with ⟨hr_9, hP1, hD1⟩
    rw [ht] at hP1
    subst hr_9
    obtain ⟨hP, hD⟩ := va_join (wr := [(a2, .inl (T 2, 12, .inr (.inr (.inr (.inr (fun _ => none))))))]) (w1 := [(a1, .inr (17, [.int 2, .ref a2, .ref a3, .ref a4, .long 0]))]) hP hD [0] [1] rfl rfl (by decide) (by decide) hk1 hFc hP1 hD1
    have hP := hP.sub (ws' := [(a1, .inr (17, [.int 2, .ref a2, .ref a3, .ref a4, .long 0])), (a2, .inl (T 2, 12, .inr (.inr (.inr (.inr (fun _ => none))))))]) [1, 0] rfl
    have hD := hD.sub (ws' := [(a1, .inr (17, [.int 2, .ref a2, .ref a3, .ref a4, .long 0])), (a2, .inl (T 2, 12, .inr (.inr (.inr (.inr (fun _ => none))))))]) [1, 0] (by decide) rfl
    clear hPc hDc hFc hP1 hD1 hk1 hz1 ht hvm
    have hP9 := hP.sub (ws' := [(a1, .inr (17, [.int 2, .ref a2, .ref a3, .ref a4, .long 0])), (a2, .inl (T 2, 12, .inr (.inr (.inr (.inr (fun _ => none))))))]) [0, 1] rfl
    have hD9 := hD.sub (ws' := [(a1, .inr (17, [.int 2, .ref a2, .ref a3, .ref a4, .long 0])), (a2, .inl (T 2, 12, .inr (.inr (.inr (.inr (fun _ => none))))))]) [0, 1] (by decide) rfl
    exact W.zret (v := 1) hx hb hr (by decide) (fun t ht hW => ⟨⟨_, _, rfl, rfl, (Or.inr (⟨c_2, rfl, by rw [ht]; exact hP9, hD9⟩))⟩, hS.F ht⟩) hS.2.2 dX12_isNoChange_40
set_option maxHeartbeats 4000000 in
set_option maxRecDepth 100000 in
theorem xcX12_nextNearest (l : Launch) (hst : l.stackTraces = false) (dC : Nat → ClassId) (dI : Nat → Nat → Nat) (T : Nat → ClassId) (a1 : Nat) (a2 : Nat) (a3 : Nat) (a4 : Nat) (sz : Nat) (p1 : Int32) (p2 : Int32) : Met l yX12_nextNearest wsX12_nextNearest ({ frames := 3, cells := 0, slots := 0, locals := 69 } : Room) (va_Pc [.ref a1, .int p1, .int p2] (fun U => xB dC dI T [(a1, .inr (17, [.int 0, .ref a2, .ref a3, .ref a4, .long 0])), (a2, .inl (T 2, 12, .inr (.inr (.inr (.inr (fun _ => none))))))] sz U)) (va_Qi (fun (r u : Int32) => r = u) (fun (u : Int32) (t : State) => (((((p1.toInt64).toInt < -100) ∨ ((¬ ((p1.toInt64).toInt < -100)) ∧ (100 < (p1.toInt64).toInt))) ∨ (((¬ ((p1.toInt64).toInt < -100)) ∧ (¬ (100 < (p1.toInt64).toInt))) ∧ (((p2.toInt64).toInt < -100) ∨ ((¬ ((p2.toInt64).toInt < -100)) ∧ (100 < (p2.toInt64).toInt))))) ∧ 0 = u ∧ xE dC dI [(a1, .inr (17, [.int 1, .ref a2, .ref a3, .ref a4, .long 0]))] (va_A [(a1, .inr (17, [.int 0, .ref a2, .ref a3, .ref a4, .long 0])), (a2, .inl (T 2, 12, .inr (.inr (.inr (.inr (fun _ => none))))))] sz) t) ∨ ((((¬ ((p1.toInt64).toInt < -100)) ∧ (¬ (100 < (p1.toInt64).toInt))) ∧ ((¬ ((p2.toInt64).toInt < -100)) ∧ (¬ (100 < (p2.toInt64).toInt)))) ∧ 0 = u ∧ xE dC dI [(a1, .inr (17, [.int 2, .ref a2, .ref a3, .ref a4, .long 0]))] (va_A [(a1, .inr (17, [.int 0, .ref a2, .ref a3, .ref a4, .long 0])), (a2, .inl (T 2, 12, .inr (.inr (.inr (.inr (fun _ => none))))))] sz) t)) (va_A [(a1, .inr (17, [.int 0, .ref a2, .ref a3, .ref a4, .long 0])), (a2, .inl (T 2, 12, .inr (.inr (.inr (.inr (fun _ => none))))))] sz)) 0 0 (va_A [(a1, .inr (17, [.int 0, .ref a2, .ref a3, .ref a4, .long 0])), (a2, .inl (T 2, 12, .inr (.inr (.inr (.inr (fun _ => none))))))] sz) := by
  refine Met.ofW (cc := cX12_nextNearest) (maxL := 3) (ret := (some .int)) (by decide +kernel) rfl ?_
  intro p e s m args below meth c s₁ B hml hv
  obtain ⟨rfl, hsz, hP, hK, hD0, hG⟩ := hv
  have hx := B.exec
  have hb := B.bytes
  have hr := B.returns
  have hts := atoms_spec (ws := wsX12_nextNearest) B.pre
  have hown : s.vm.findClass RX12 = some m.cls := findClass_of_methodNamed B.named
  have hlocks := B.notSynchronized
  subst hsz
  have hD := hD0.self (sz := s.heap.size)
  generalize hAe : va_A [(a1, .inr (17, [.int 0, .ref a2, .ref a3, .ref a4, .long 0])), (a2, .inl (T 2, 12, .inr (.inr (.inr (.inr (fun _ => none))))))] s.heap.size = A at hD hG ⊢
  have hA : ∀ q : Nat, s.heap.size ≤ q → A q := fun q h => by rw [← hAe]; exact Or.inr h
  have hS : va_S A s.heap s.heap [] := va_S.rf
  have hl := lv_entry ([.ref a1, .int p1, .int p2]) (n := 3) (Nat.le_of_ble_eq_true rfl)
  rw [lg_entry_eq]
  generalize (lg_sl ([.ref a1, .int p1, .int p2]) ++ List.replicate (3 - (lg_sl ([.ref a1, .int p1, .int p2])).length) Slot.unset).toArray = ls at hl ⊢
  have hl : lv_has ls 3 [(0, .ref a1), (1, .int p1), (2, .int p2)] := hl
  refine lv_aload_n hx hb dX12_nextNearest_0 rfl (lv_at hl 0 rfl) ?_
  refine lv_iload_n hx hb dX12_nextNearest_1 rfl (lv_at hl 1 rfl) ?_
  refine lv_iload_n hx hb dX12_nextNearest_2 rfl (lv_at hl 2 rfl) ?_
  have hPc := hP.sub (ws' := [(a1, .inr (17, [.int 0, .ref a2, .ref a3, .ref a4, .long 0])), (a2, .inl (T 2, 12, .inr (.inr (.inr (.inr (fun _ => none))))))]) [0, 1] rfl
  have hDc := hD.sub (ws' := [(a1, .inr (17, [.int 0, .ref a2, .ref a3, .ref a4, .long 0])), (a2, .inl (T 2, 12, .inr (.inr (.inr (.inr (fun _ => none))))))]) [0, 1] (by decide) rfl
  have hFc := va_free (wc := [(a1, .inr (17, [.int 0, .ref a2, .ref a3, .ref a4, .long 0])), (a2, .inl (T 2, 12, .inr (.inr (.inr (.inr (fun _ => none))))))]) hD hS hA [0, 1] rfl
  refine va_calli (va_runV (As := [.int p1, .int p2]) (rest := []) ⟨hx, hb, hml, hown, hts⟩ (xcX12_isNoChange l hst dC dI T a1 a2 a3 a4 s.heap.size p1 p2) (cwV 2 hts gX12_nextNearest_X12_isNoChange rfl rfl rfl (by decide +kernel) ⟨Nat.le_of_ble_eq_true rfl, Nat.le_of_ble_eq_true rfl⟩) ⟨xBlind, va_recv hK hPc (ci := 17) (q0 := 0) rfl rfl, xCall hK hG hS hPc hDc hFc⟩ rfl rfl hl.1 rfl (lv_room (Nat.le_of_ble_eq_true rfl)) dX12_nextNearest_3 ⟨Nat.le_of_ble_eq_true rfl, Nat.le_of_ble_eq_true rfl⟩) hS (fun q _ h => hFc q h) hFc (fun r_9 u t H locs ht hvm hw hB hz1 hk1 hS => ?_)
  subst hw
  rcases hB with ⟨c_1, hr_9, hP1, hD1⟩ | ⟨c_2, hr_9, hP1, hD1⟩
  · have hz_3 : (p1.toInt64).toInt = p1.toInt := Int32.toInt_toInt64 _
    have hz_4 : (p2.toInt64).toInt = p2.toInt := Int32.toInt_toInt64 _
    rw [ht] at hP1
    subst hr_9
    obtain ⟨hP, hD⟩ := va_join (wr := []) (w1 := [(a1, .inr (17, [.int 1, .ref a2, .ref a3, .ref a4, .long 0])), (a2, .inl (T 2, 12, .inr (.inr (.inr (.inr (fun _ => none))))))]) hP hD [0, 1] [] rfl rfl (by decide) (by decide) hk1 hFc hP1 hD1
    have hP : va_P (dC, dI) vwCl [(a1, .inr (17, [.int 1, .ref a2, .ref a3, .ref a4, .long 0])), (a2, .inl (T 2, 12, .inr (.inr (.inr (.inr (fun _ => none))))))] H := hP
    have hD : va_D A [(a1, .inr (17, [.int 1, .ref a2, .ref a3, .ref a4, .long 0])), (a2, .inl (T 2, 12, .inr (.inr (.inr (.inr (fun _ => none))))))] := hD
    clear hPc hDc hFc hP1 hD1 hk1 hz1 ht hvm
    refine lv_if_eq (tgt := 13) hx hb dX12_nextNearest_6 (by decide) (fun c_5 => absurd c_5 (by decide)) (fun c_5 => ?_)
    refine lv_iconst (v := 0) hx hb dX12_nextNearest_9 (by decide) ?_
    refine lv_goto (tgt := 28) hx hb dX12_nextNearest_10 (by decide) ?_
    have hP9 := hP.sub (ws' := [(a1, .inr (17, [.int 1, .ref a2, .ref a3, .ref a4, .long 0]))]) [0] rfl
    have hD9 := hD.sub (ws' := [(a1, .inr (17, [.int 1, .ref a2, .ref a3, .ref a4, .long 0]))]) [0] (by decide) rfl
    exact W.iret (v := 0) hx hb hr (fun t ht hW => ⟨⟨_, _, rfl, rfl, (Or.inl ⟨c_1, rfl, by rw [ht]; exact hP9, hD9⟩)⟩, hS.F ht⟩) hS.2.2 dX12_nextNearest_28
  · have hz_6 : (p1.toInt64).toInt = p1.toInt := Int32.toInt_toInt64 _
    have hz_7 : (p2.toInt64).toInt = p2.toInt := Int32.toInt_toInt64 _
    rw [ht] at hP1
    subst hr_9
    obtain ⟨hP, hD⟩ := va_join (wr := []) (w1 := [(a1, .inr (17, [.int 2, .ref a2, .ref a3, .ref a4, .long 0])), (a2, .inl (T 2, 12, .inr (.inr (.inr (.inr (fun _ => none))))))]) hP hD [0, 1] [] rfl rfl (by decide) (by decide) hk1 hFc hP1 hD1
    have hP : va_P (dC, dI) vwCl [(a1, .inr (17, [.int 2, .ref a2, .ref a3, .ref a4, .long 0])), (a2, .inl (T 2, 12, .inr (.inr (.inr (.inr (fun _ => none))))))] H := hP
    have hD : va_D A [(a1, .inr (17, [.int 2, .ref a2, .ref a3, .ref a4, .long 0])), (a2, .inl (T 2, 12, .inr (.inr (.inr (.inr (fun _ => none))))))] := hD
    clear hPc hDc hFc hP1 hD1 hk1 hz1 ht hvm
    refine lv_if_eq (tgt := 13) hx hb dX12_nextNearest_6 (by decide) (fun c_8 => absurd c_8 (by decide)) (fun c_8 => ?_)
    refine lv_iconst (v := 0) hx hb dX12_nextNearest_9 (by decide) ?_
    refine lv_goto (tgt := 28) hx hb dX12_nextNearest_10 (by decide) ?_
    have hP9 := hP.sub (ws' := [(a1, .inr (17, [.int 2, .ref a2, .ref a3, .ref a4, .long 0]))]) [0] rfl
    have hD9 := hD.sub (ws' := [(a1, .inr (17, [.int 2, .ref a2, .ref a3, .ref a4, .long 0]))]) [0] (by decide) rfl
    exact W.iret (v := 0) hx hb hr (fun t ht hW => ⟨⟨_, _, rfl, rfl, (Or.inr (⟨c_2, rfl, by rw [ht]; exact hP9, hD9⟩))⟩, hS.F ht⟩) hS.2.2 dX12_nextNearest_28
set_option maxHeartbeats 4000000 in
set_option maxRecDepth 100000 in
theorem xcX12_nextTime (l : Launch) (hst : l.stackTraces = false) (dC : Nat → ClassId) (dI : Nat → Nat → Nat) (T : Nat → ClassId) (a1 : Nat) (a2 : Nat) (a3 : Nat) (a4 : Nat) (sz : Nat) (p1 : Int32) (p2 : Int32) : Met l yX12_nextTime wsX12_nextTime ({ frames := 3, cells := 0, slots := 0, locals := 69 } : Room) (va_Pc [.ref a1, .int p1, .int p2] (fun U => xB dC dI T [(a1, .inr (17, [.int 0, .ref a2, .ref a3, .ref a4, .long 0])), (a2, .inl (T 2, 12, .inr (.inr (.inr (.inr (fun _ => none))))))] sz U)) (va_Qi (fun (r u : Int32) => r = u) (fun (u : Int32) (t : State) => (((((p1.toInt64).toInt < -100) ∨ ((¬ ((p1.toInt64).toInt < -100)) ∧ (100 < (p1.toInt64).toInt))) ∨ (((¬ ((p1.toInt64).toInt < -100)) ∧ (¬ (100 < (p1.toInt64).toInt))) ∧ (((p2.toInt64).toInt < -100) ∨ ((¬ ((p2.toInt64).toInt < -100)) ∧ (100 < (p2.toInt64).toInt))))) ∧ 0 = u ∧ xE dC dI [(a1, .inr (17, [.int 1, .ref a2, .ref a3, .ref a4, .long 0]))] (va_A [(a1, .inr (17, [.int 0, .ref a2, .ref a3, .ref a4, .long 0])), (a2, .inl (T 2, 12, .inr (.inr (.inr (.inr (fun _ => none))))))] sz) t) ∨ ((((¬ ((p1.toInt64).toInt < -100)) ∧ (¬ (100 < (p1.toInt64).toInt))) ∧ ((¬ ((p2.toInt64).toInt < -100)) ∧ (¬ (100 < (p2.toInt64).toInt)))) ∧ 0 = u ∧ xE dC dI [(a1, .inr (17, [.int 2, .ref a2, .ref a3, .ref a4, .long 0]))] (va_A [(a1, .inr (17, [.int 0, .ref a2, .ref a3, .ref a4, .long 0])), (a2, .inl (T 2, 12, .inr (.inr (.inr (.inr (fun _ => none))))))] sz) t)) (va_A [(a1, .inr (17, [.int 0, .ref a2, .ref a3, .ref a4, .long 0])), (a2, .inl (T 2, 12, .inr (.inr (.inr (.inr (fun _ => none))))))] sz)) 0 0 (va_A [(a1, .inr (17, [.int 0, .ref a2, .ref a3, .ref a4, .long 0])), (a2, .inl (T 2, 12, .inr (.inr (.inr (.inr (fun _ => none))))))] sz) := by
  refine Met.ofW (cc := cX12_nextTime) (maxL := 3) (ret := (some .int)) (by decide +kernel) rfl ?_
  intro p e s m args below meth c s₁ B hml hv
  obtain ⟨rfl, hsz, hP, hK, hD0, hG⟩ := hv
  have hx := B.exec
  have hb := B.bytes
  have hr := B.returns
  have hts := atoms_spec (ws := wsX12_nextTime) B.pre
  have hown : s.vm.findClass RX12 = some m.cls := findClass_of_methodNamed B.named
  have hlocks := B.notSynchronized
  subst hsz
  have hD := hD0.self (sz := s.heap.size)
  generalize hAe : va_A [(a1, .inr (17, [.int 0, .ref a2, .ref a3, .ref a4, .long 0])), (a2, .inl (T 2, 12, .inr (.inr (.inr (.inr (fun _ => none))))))] s.heap.size = A at hD hG ⊢
  have hA : ∀ q : Nat, s.heap.size ≤ q → A q := fun q h => by rw [← hAe]; exact Or.inr h
  have hS : va_S A s.heap s.heap [] := va_S.rf
  have hl := lv_entry ([.ref a1, .int p1, .int p2]) (n := 3) (Nat.le_of_ble_eq_true rfl)
  rw [lg_entry_eq]
  generalize (lg_sl ([.ref a1, .int p1, .int p2]) ++ List.replicate (3 - (lg_sl ([.ref a1, .int p1, .int p2])).length) Slot.unset).toArray = ls at hl ⊢
  have hl : lv_has ls 3 [(0, .ref a1), (1, .int p1), (2, .int p2)] := hl
  refine lv_aload_n hx hb dX12_nextTime_0 rfl (lv_at hl 0 rfl) ?_
  refine lv_iload_n hx hb dX12_nextTime_1 rfl (lv_at hl 1 rfl) ?_
  refine lv_iload_n hx hb dX12_nextTime_2 rfl (lv_at hl 2 rfl) ?_
  have hPc := hP.sub (ws' := [(a1, .inr (17, [.int 0, .ref a2, .ref a3, .ref a4, .long 0])), (a2, .inl (T 2, 12, .inr (.inr (.inr (.inr (fun _ => none))))))]) [0, 1] rfl
  have hDc := hD.sub (ws' := [(a1, .inr (17, [.int 0, .ref a2, .ref a3, .ref a4, .long 0])), (a2, .inl (T 2, 12, .inr (.inr (.inr (.inr (fun _ => none))))))]) [0, 1] (by decide) rfl
  have hFc := va_free (wc := [(a1, .inr (17, [.int 0, .ref a2, .ref a3, .ref a4, .long 0])), (a2, .inl (T 2, 12, .inr (.inr (.inr (.inr (fun _ => none))))))]) hD hS hA [0, 1] rfl
  refine va_calli (va_runV (As := [.int p1, .int p2]) (rest := []) ⟨hx, hb, hml, hown, hts⟩ (xcX12_isNoChange l hst dC dI T a1 a2 a3 a4 s.heap.size p1 p2) (cwV 2 hts gX12_nextTime_X12_isNoChange rfl rfl rfl (by decide +kernel) ⟨Nat.le_of_ble_eq_true rfl, Nat.le_of_ble_eq_true rfl⟩) ⟨xBlind, va_recv hK hPc (ci := 17) (q0 := 0) rfl rfl, xCall hK hG hS hPc hDc hFc⟩ rfl rfl hl.1 rfl (lv_room (Nat.le_of_ble_eq_true rfl)) dX12_nextTime_3 ⟨Nat.le_of_ble_eq_true rfl, Nat.le_of_ble_eq_true rfl⟩) hS (fun q _ h => hFc q h) hFc (fun r_9 u t H locs ht hvm hw hB hz1 hk1 hS => ?_)
  subst hw
  rcases hB with ⟨c_1, hr_9, hP1, hD1⟩ | ⟨c_2, hr_9, hP1, hD1⟩
  · have hz_3 : (p1.toInt64).toInt = p1.toInt := Int32.toInt_toInt64 _
    have hz_4 : (p2.toInt64).toInt = p2.toInt := Int32.toInt_toInt64 _
    rw [ht] at hP1
    subst hr_9
    obtain ⟨hP, hD⟩ := va_join (wr := []) (w1 := [(a1, .inr (17, [.int 1, .ref a2, .ref a3, .ref a4, .long 0])), (a2, .inl (T 2, 12, .inr (.inr (.inr (.inr (fun _ => none))))))]) hP hD [0, 1] [] rfl rfl (by decide) (by decide) hk1 hFc hP1 hD1
    have hP : va_P (dC, dI) vwCl [(a1, .inr (17, [.int 1, .ref a2, .ref a3, .ref a4, .long 0])), (a2, .inl (T 2, 12, .inr (.inr (.inr (.inr (fun _ => none))))))] H := hP
    have hD : va_D A [(a1, .inr (17, [.int 1, .ref a2, .ref a3, .ref a4, .long 0])), (a2, .inl (T 2, 12, .inr (.inr (.inr (.inr (fun _ => none))))))] := hD
    clear hPc hDc hFc hP1 hD1 hk1 hz1 ht hvm
    refine lv_if_eq (tgt := 13) hx hb dX12_nextTime_6 (by decide) (fun c_5 => absurd c_5 (by decide)) (fun c_5 => ?_)
    refine lv_iconst (v := 0) hx hb dX12_nextTime_9 (by decide) ?_
    refine lv_goto (tgt := 19) hx hb dX12_nextTime_10 (by decide) ?_
    have hP9 := hP.sub (ws' := [(a1, .inr (17, [.int 1, .ref a2, .ref a3, .ref a4, .long 0]))]) [0] rfl
    have hD9 := hD.sub (ws' := [(a1, .inr (17, [.int 1, .ref a2, .ref a3, .ref a4, .long 0]))]) [0] (by decide) rfl
    exact W.iret (v := 0) hx hb hr (fun t ht hW => ⟨⟨_, _, rfl, rfl, (Or.inl ⟨c_1, rfl, by rw [ht]; exact hP9, hD9⟩)⟩, hS.F ht⟩) hS.2.2 dX12_nextTime_19
  · have hz_6 : (p1.toInt64).toInt = p1.toInt := Int32.toInt_toInt64 _
    have hz_7 : (p2.toInt64).toInt = p2.toInt := Int32.toInt_toInt64 _
    rw [ht] at hP1
    subst hr_9
    obtain ⟨hP, hD⟩ := va_join (wr := []) (w1 := [(a1, .inr (17, [.int 2, .ref a2, .ref a3, .ref a4, .long 0])), (a2, .inl (T 2, 12, .inr (.inr (.inr (.inr (fun _ => none))))))]) hP hD [0, 1] [] rfl rfl (by decide) (by decide) hk1 hFc hP1 hD1
    have hP : va_P (dC, dI) vwCl [(a1, .inr (17, [.int 2, .ref a2, .ref a3, .ref a4, .long 0])), (a2, .inl (T 2, 12, .inr (.inr (.inr (.inr (fun _ => none))))))] H := hP
    have hD : va_D A [(a1, .inr (17, [.int 2, .ref a2, .ref a3, .ref a4, .long 0])), (a2, .inl (T 2, 12, .inr (.inr (.inr (.inr (fun _ => none))))))] := hD
    clear hPc hDc hFc hP1 hD1 hk1 hz1 ht hvm
    refine lv_if_eq (tgt := 13) hx hb dX12_nextTime_6 (by decide) (fun c_8 => absurd c_8 (by decide)) (fun c_8 => ?_)
    refine lv_iconst (v := 0) hx hb dX12_nextTime_9 (by decide) ?_
    refine lv_goto (tgt := 19) hx hb dX12_nextTime_10 (by decide) ?_
    have hP9 := hP.sub (ws' := [(a1, .inr (17, [.int 2, .ref a2, .ref a3, .ref a4, .long 0]))]) [0] rfl
    have hD9 := hD.sub (ws' := [(a1, .inr (17, [.int 2, .ref a2, .ref a3, .ref a4, .long 0]))]) [0] (by decide) rfl
    exact W.iret (v := 0) hx hb hr (fun t ht hW => ⟨⟨_, _, rfl, rfl, (Or.inr (⟨c_2, rfl, by rw [ht]; exact hP9, hD9⟩))⟩, hS.F ht⟩) hS.2.2 dX12_nextTime_19
set_option maxHeartbeats 4000000 in
set_option maxRecDepth 100000 in
theorem xcX12_isBetween_v7 (l : Launch) (hst : l.stackTraces = false) (dC : Nat → ClassId) (dI : Nat → Nat → Nat) (T : Nat → ClassId) (sz : Nat) (p0 : Int64) : Met l yX12_isBetween wsX12_isBetween ({ frames := 0, cells := 0, slots := 0, locals := 0 } : Room) (va_Pc [.long p0, .long 1, .long 20] (fun U => xB dC dI T [] sz U)) (va_Qi (fun (r u : Int32) => r = u) (fun (u : Int32) (t : State) => (((p0.toInt < 1) ∨ ((¬ (p0.toInt < 1)) ∧ (20 < p0.toInt))) ∧ 0 = u ∧ xE dC dI [] (va_A [] sz) t) ∨ (((¬ (p0.toInt < 1)) ∧ (¬ (20 < p0.toInt))) ∧ 1 = u ∧ xE dC dI [] (va_A [] sz) t)) (va_A [] sz)) 0 0 (va_A [] sz) := by
  refine Met.ofW (cc := cX12_isBetween) (maxL := 6) (ret := (some .boolean)) (by decide +kernel) rfl ?_
  intro p e s m args below meth c s₁ B hml hv
  obtain ⟨rfl, hsz, hP, hK, hD0, hG⟩ := hv
  have hx := B.exec
  have hb := B.bytes
  have hr := B.returns
  have hts := atoms_spec (ws := wsX12_isBetween) B.pre
  have hown : s.vm.findClass RX12 = some m.cls := findClass_of_methodNamed B.named
  have hlocks := B.notSynchronized
  subst hsz
  have hD := hD0.self (sz := s.heap.size)
  generalize hAe : va_A [] s.heap.size = A at hD hG ⊢
  have hA : ∀ q : Nat, s.heap.size ≤ q → A q := fun q h => by rw [← hAe]; exact Or.inr h
  have hS : va_S A s.heap s.heap [] := va_S.rf
  have hl := lv_entry ([.long p0, .long 1, .long 20]) (n := 6) (Nat.le_of_ble_eq_true rfl)
  rw [lg_entry_eq]
  generalize (lg_sl ([.long p0, .long 1, .long 20]) ++ List.replicate (6 - (lg_sl ([.long p0, .long 1, .long 20])).length) Slot.unset).toArray = ls at hl ⊢
  have hl : lv_has ls 6 [(0, .long p0), (2, .long 1), (4, .long 20)] := hl
  refine lv_lload_n hx hb dX12_isBetween_0 rfl (lv_at hl 1 rfl) ?_
  refine lv_lload_n hx hb dX12_isBetween_1 rfl (lv_at hl 0 rfl) ?_
  refine W.lcmp hx hb dX12_isBetween_2 ?_
  refine lv_if_gt (tgt := 17) hx hb dX12_isBetween_3 (by decide) (fun c_1 => ?_) (fun c_1 => ?_)
  · have nc_1 : p0.toInt < 1 := (xl_gt rfl (by decide +kernel)).mp c_1
    refine lv_iconst (v := 0) hx hb dX12_isBetween_17 (by decide) ?_
    have hP9 := hP.sub (ws' := []) [] rfl
    have hD9 := hD.sub (ws' := []) [] (by decide) rfl
    exact W.zret (v := 0) hx hb hr (by decide) (fun t ht hW => ⟨⟨_, _, rfl, rfl, (Or.inl ⟨(Or.inl nc_1), rfl, by rw [ht]; exact hP9, hD9⟩)⟩, hS.F ht⟩) hS.2.2 dX12_isBetween_18
  · have nc_1 : ¬ (p0.toInt < 1) := mt (xl_gt rfl (by decide +kernel)).mpr c_1
    refine lv_lload_n hx hb dX12_isBetween_6 rfl (lv_at hl 0 rfl) ?_
    refine lv_lload hx hb dX12_isBetween_7 (lv_at hl 2 rfl) ?_
    refine W.lcmp hx hb dX12_isBetween_9 ?_
    refine lv_if_gt (tgt := 17) hx hb dX12_isBetween_10 (by decide) (fun c_2 => ?_) (fun c_2 => ?_)
    · have nc_2 : 20 < p0.toInt := (xl_gt (by decide +kernel) rfl).mp c_2
      refine lv_iconst (v := 0) hx hb dX12_isBetween_17 (by decide) ?_
      have hP9 := hP.sub (ws' := []) [] rfl
      have hD9 := hD.sub (ws' := []) [] (by decide) rfl
      exact W.zret (v := 0) hx hb hr (by decide) (fun t ht hW => ⟨⟨_, _, rfl, rfl, (Or.inl ⟨(Or.inr (⟨nc_1, nc_2⟩)), rfl, by rw [ht]; exact hP9, hD9⟩)⟩, hS.F ht⟩) hS.2.2 dX12_isBetween_18
    · have nc_2 : ¬ (20 < p0.toInt) := mt (xl_gt (by decide +kernel) rfl).mpr c_2
      refine lv_iconst (v := 1) hx hb dX12_isBetween_13 (by decide) ?_
      refine lv_goto (tgt := 18) hx hb dX12_isBetween_14 (by decide) ?_
      have hP9 := hP.sub (ws' := []) [] rfl
      have hD9 := hD.sub (ws' := []) [] (by decide) rfl
      exact W.zret (v := 1) hx hb hr (by decide) (fun t ht hW => ⟨⟨_, _, rfl, rfl, (Or.inr (⟨⟨nc_1, nc_2⟩, rfl, by rw [ht]; exact hP9, hD9⟩))⟩, hS.F ht⟩) hS.2.2 dX12_isBetween_18
set_option maxHeartbeats 4000000 in
set_option maxRecDepth 100000 in
theorem xcX12_behind (l : Launch) (hst : l.stackTraces = false) (dC : Nat → ClassId) (dI : Nat → Nat → Nat) (T : Nat → ClassId) (a1 : Nat) (a2 : Nat) (a3 : Nat) (a4 : Nat) (sz : Nat) (p1 : Int32) : Met l yX12_behind wsX12_behind ({ frames := 1, cells := 1, slots := 12, locals := 22 } : Room) (va_Pc [.ref a1, .int p1] (fun U => xB dC dI T [(a1, .inr (17, [.int 0, .ref a2, .ref a3, .ref a4, .long 0])), (a2, .inl (T 2, 12, .inr (.inr (.inr (.inr (fun _ => none))))))] sz U)) (va_Qr (fun _ : Unit => True) (fun (_ : Unit) (ra : Nat) (t : State) => ∃ (q_1 : Nat), q_1 = ra ∧ xE dC dI [(a1, .inr (17, [.int 0, .ref a2, .ref a3, .ref a4, .long 0])), (a2, .inl (T 2, 12, .inr (.inr (.inr (.inr (fun _ => none)))))), (q_1, .inl (T 2, 12, .inr (.inr (.inr (.inr (fun _ => none))))))] (va_A [(a1, .inr (17, [.int 0, .ref a2, .ref a3, .ref a4, .long 0])), (a2, .inl (T 2, 12, .inr (.inr (.inr (.inr (fun _ => none))))))] sz) t) (va_A [(a1, .inr (17, [.int 0, .ref a2, .ref a3, .ref a4, .long 0])), (a2, .inl (T 2, 12, .inr (.inr (.inr (.inr (fun _ => none))))))] sz)) 1 12 (va_A [(a1, .inr (17, [.int 0, .ref a2, .ref a3, .ref a4, .long 0])), (a2, .inl (T 2, 12, .inr (.inr (.inr (.inr (fun _ => none))))))] sz) := by
  refine Met.ofW (cc := cX12_behind) (maxL := 7) (ret := (some (.array (.array .int)))) (by decide +kernel) rfl ?_
  intro p e s m args below meth c s₁ B hml hv
  obtain ⟨rfl, hsz, hP, hK, hD0, hG⟩ := hv
  have hx := B.exec
  have hb := B.bytes
  have hr := B.returns
  have hts := atoms_spec (ws := wsX12_behind) B.pre
  have hown : s.vm.findClass RX12 = some m.cls := findClass_of_methodNamed B.named
  have hlocks := B.notSynchronized
  have hin_X12 : ∀ w ∈ wsX120, w ∈ wsX12_behind := by decide +kernel
  subst hsz
  have hD := hD0.self (sz := s.heap.size)
  generalize hAe : va_A [(a1, .inr (17, [.int 0, .ref a2, .ref a3, .ref a4, .long 0])), (a2, .inl (T 2, 12, .inr (.inr (.inr (.inr (fun _ => none))))))] s.heap.size = A at hD hG ⊢
  have hA : ∀ q : Nat, s.heap.size ≤ q → A q := fun q h => by rw [← hAe]; exact Or.inr h
  have hS : va_S A s.heap s.heap [] := va_S.rf
  have hl := lv_entry ([.ref a1, .int p1]) (n := 7) (Nat.le_of_ble_eq_true rfl)
  rw [lg_entry_eq]
  generalize (lg_sl ([.ref a1, .int p1]) ++ List.replicate (7 - (lg_sl ([.ref a1, .int p1])).length) Slot.unset).toArray = ls at hl ⊢
  have hl : lv_has ls 7 [(0, .ref a1), (1, .int p1)] := hl
  refine lv_aload_n hx hb dX12_behind_0 rfl (lv_at hl 0 rfl) ?_
  refine va_get (D := (dC, dI)) (ci := 17) (v := .ref a2) (C := RX12) (T := TX12) (N := 5) hx hb hts hin_X12 hown hK hP 0 rfl rfl 1 (by decide) (hts (.fieldLink RX12 11 "NearestwardModel" "points" "[[I") (by decide +kernel)) (fun _ h9 => h9) rfl dX12_behind_1 ?_
  have hPc := hP.sub (ws' := [(a2, .inl (T 2, 12, .inr (.inr (.inr (.inr (fun _ => none))))))]) [1] rfl
  have hDc := hD.sub (ws' := [(a2, .inl (T 2, 12, .inr (.inr (.inr (.inr (fun _ => none))))))]) [1] (by decide) rfl
  have hFc := va_free (wc := [(a2, .inl (T 2, 12, .inr (.inr (.inr (.inr (fun _ => none))))))]) hD hS hA [1] rfl
  refine va_callr (va_runS (As := [.ref a2]) (rest := []) ⟨hx, hb, hml, hown, hts⟩ (xcX12_copy l hst dC dI T a2 s.heap.size) (cwS 1 hts gX12_behind_X12_copy rfl rfl rfl (by decide +kernel) ⟨Nat.le_of_ble_eq_true rfl, Nat.le_of_ble_eq_true rfl⟩) ⟨xBlind, xCall hK hG hS hPc hDc hFc⟩ rfl rfl hl.1 rfl (lv_room (Nat.le_of_ble_eq_true rfl)) dX12_behind_4 ⟨Nat.le_of_ble_eq_true rfl, Nat.le_of_ble_eq_true rfl⟩) hS (fun q _ h => hFc q h) hFc (fun u ra t H locs ht hvm hw hB hz1 hk1 hS => ?_)
  rcases hB with ⟨q_1, hr_9, hP1, hD1⟩
  rw [ht] at hP1
  subst hr_9
  obtain ⟨hP, hD⟩ := va_join (wr := [(a1, .inr (17, [.int 0, .ref a2, .ref a3, .ref a4, .long 0]))]) (w1 := [(a2, .inl (T 2, 12, .inr (.inr (.inr (.inr (fun _ => none)))))), (q_1, .inl (T 2, 12, .inr (.inr (.inr (.inr (fun _ => none))))))]) hP hD [1] [0] rfl rfl (by decide) (by decide) hk1 hFc hP1 hD1
  have hP : va_P (dC, dI) vwCl [(a1, .inr (17, [.int 0, .ref a2, .ref a3, .ref a4, .long 0])), (a2, .inl (T 2, 12, .inr (.inr (.inr (.inr (fun _ => none)))))), (q_1, .inl (T 2, 12, .inr (.inr (.inr (.inr (fun _ => none))))))] H := hP
  have hD : va_D A [(a1, .inr (17, [.int 0, .ref a2, .ref a3, .ref a4, .long 0])), (a2, .inl (T 2, 12, .inr (.inr (.inr (.inr (fun _ => none)))))), (q_1, .inl (T 2, 12, .inr (.inr (.inr (.inr (fun _ => none))))))] := hD
  clear hPc hDc hFc hP1 hD1 hk1 hz1 ht hvm
  refine lv_astore_n (lv' := [(2, .ref q_1), (0, .ref a1), (1, .int p1)]) hx hb dX12_behind_7 rfl hl (by decide) rfl (fun ls hl => ?_)
  refine lv_aload_n hx hb dX12_behind_8 rfl (lv_at hl 0 rfl) ?_
  refine lv_astore_n (lv' := [(3, .ref q_1), (2, .ref q_1), (0, .ref a1), (1, .int p1)]) hx hb dX12_behind_9 rfl hl (by decide) rfl (fun ls hl => ?_)
  refine lv_aload_n hx hb dX12_behind_10 rfl (lv_at hl 0 rfl) ?_
  refine va_alen (v := 12) hx hb hK hP 2 2 rfl rfl (by decide) dX12_behind_11 ?_
  refine lv_istore (lv' := [(4, .int 12), (3, .ref q_1), (2, .ref q_1), (0, .ref a1), (1, .int p1)]) hx hb dX12_behind_12 hl (by decide) rfl (fun ls hl => ?_)
  refine lv_iconst (v := 0) hx hb dX12_behind_14 (by decide) ?_
  refine lv_istore (lv' := [(5, .int 0), (4, .int 12), (3, .ref q_1), (2, .ref q_1), (0, .ref a1), (1, .int p1)]) hx hb dX12_behind_15 hl (by decide) rfl (fun ls hl => ?_)
  refine xLoop (P := fun i_k_3 H locs ls => va_P (dC, dI) vwCl [(a1, .inr (17, [.int 0, .ref a2, .ref a3, .ref a4, .long 0])), (a2, .inl (T 2, 12, .inr (.inr (.inr (.inr (fun _ => none)))))), (q_1, .inl (T 2, 12, .inr (.inr (.inr (.inr (fun _ => none))))))] H ∧ va_D A [(a1, .inr (17, [.int 0, .ref a2, .ref a3, .ref a4, .long 0])), (a2, .inl (T 2, 12, .inr (.inr (.inr (.inr (fun _ => none)))))), (q_1, .inl (T 2, 12, .inr (.inr (.inr (.inr (fun _ => none))))))] ∧ va_S A s.heap H locs ∧ lv_has ls 7 [(5, .int (nI i_k_3)), (4, .int 12), (3, .ref q_1), (2, .ref q_1), (1, .int p1)]) (N := 12) (fun i_k_3 H locs ls hi_k_3 hI ih_k_3 => ?_) (0) _ _ _ (by omega) ⟨hP, hD, hS, lv_sub hl [0, 1, 2, 3, 5] rfl⟩
  obtain ⟨hP, hD, hS, hl⟩ := hI
  refine lv_iload hx hb dX12_behind_17 (lv_at hl 0 rfl) ?_
  refine lv_iload hx hb dX12_behind_19 (lv_at hl 1 rfl) ?_
  have hz_5 : (nI i_k_3).toInt = ((i_k_3 : Nat) : Int) := nI_toInt (by omega)
  refine lv_icmp_ge (tgt := 70) hx hb dX12_behind_21 (by decide) (fun c_4 => ?_) (fun c_4 => ?_)
  · have nc_4 : 12 ≤ (nI i_k_3).toInt := (xi_le (by decide +kernel) rfl).mp c_4
    refine lv_aload_n hx hb dX12_behind_70 rfl (lv_at hl 3 rfl) ?_
    have hP9 := hP.sub (ws' := [(a1, .inr (17, [.int 0, .ref a2, .ref a3, .ref a4, .long 0])), (a2, .inl (T 2, 12, .inr (.inr (.inr (.inr (fun _ => none)))))), (q_1, .inl (T 2, 12, .inr (.inr (.inr (.inr (fun _ => none))))))]) [0, 1, 2] rfl
    have hD9 := hD.sub (ws' := [(a1, .inr (17, [.int 0, .ref a2, .ref a3, .ref a4, .long 0])), (a2, .inl (T 2, 12, .inr (.inr (.inr (.inr (fun _ => none)))))), (q_1, .inl (T 2, 12, .inr (.inr (.inr (.inr (fun _ => none))))))]) [0, 1, 2] (by decide) rfl
    exact W.aret (v := .ref q_1) hx hb hr (Or.inr ⟨_, rfl⟩) (Or.inr ⟨_, rfl⟩) (fun t ht hW => ⟨⟨(), _, rfl, trivial, ⟨q_1, rfl, by rw [ht]; exact hP9, hD9⟩⟩, hS.F ht⟩) hS.2.2 dX12_behind_71
  · have nc_4 : ¬ (12 ≤ (nI i_k_3).toInt) := mt (xi_le (by decide +kernel) rfl).mpr c_4
    refine lv_aload_n hx hb dX12_behind_24 rfl (lv_at hl 2 rfl) ?_
    refine lv_iload hx hb dX12_behind_25 (lv_at hl 0 rfl) ?_
    refine xAldq hx hb hK hP 2 2 rfl rfl (vp_in_nI (by omega) (by decide)) dX12_behind_27 ?_
    refine lv_astoreN (lv' := [(6, .null), (5, .int (nI i_k_3)), (4, .int 12), (3, .ref q_1), (2, .ref q_1), (1, .int p1)]) hx hb dX12_behind_28 hl (by decide) rfl (fun ls hl => ?_)
    refine lv_aloadN hx hb dX12_behind_30 (lv_at hl 0 rfl) ?_
    refine lv_ifnonnullN hx hb dX12_behind_32 ?_
    refine lv_goto (tgt := 64) hx hb dX12_behind_35 (by decide) ?_
    refine lv_iinc (v := (nI (i_k_3 + 1))) (lv' := [(5, .int (nI (i_k_3 + 1))), (6, .null), (4, .int 12), (3, .ref q_1), (2, .ref q_1), (1, .int p1)]) hx hb dX12_behind_64 hl (k := 1) rfl (nI_1 _) (by decide) rfl (fun ls hl => ?_)
    refine lv_goto (tgt := 17) hx hb dX12_behind_67 (by decide) ?_
    exact ih_k_3 _ _ _ (by omega) ⟨hP, hD, hS, lv_sub hl [0, 2, 3, 4, 5] rfl⟩
set_option maxHeartbeats 4000000 in
set_option maxRecDepth 100000 in
theorem xcX12_pass (l : Launch) (hst : l.stackTraces = false) (dC : Nat → ClassId) (dI : Nat → Nat → Nat) (T : Nat → ClassId) (a1 : Nat) (a2 : Nat) (a3 : Nat) (a4 : Nat) (sz : Nat) (p1 : Int32) : Met l yX12_pass wsX12_pass ({ frames := 2, cells := 1, slots := 12, locals := 48 } : Room) (va_Pc [.ref a1, .int p1] (fun U => xB dC dI T [(a1, .inr (17, [.int 0, .ref a2, .ref a3, .ref a4, .long 0])), (a2, .inl (T 2, 12, .inr (.inr (.inr (.inr (fun _ => none))))))] sz U)) (va_Qi (fun (r u : Int32) => r = u) (fun (u : Int32) (t : State) => ((((p1.toInt64).toInt < 1) ∨ ((¬ ((p1.toInt64).toInt < 1)) ∧ (20 < (p1.toInt64).toInt))) ∧ 0 = u ∧ xE dC dI [(a1, .inr (17, [.int 1, .ref a2, .ref a3, .ref a4, .long 0]))] (va_A [(a1, .inr (17, [.int 0, .ref a2, .ref a3, .ref a4, .long 0])), (a2, .inl (T 2, 12, .inr (.inr (.inr (.inr (fun _ => none))))))] sz) t) ∨ (∃ (q_11 : Nat), ((¬ ((p1.toInt64).toInt < 1)) ∧ (¬ (20 < (p1.toInt64).toInt))) ∧ 0 = u ∧ xE dC dI [(a1, .inr (17, [.int 0, .ref q_11, .ref a3, .ref a4, .long 0]))] (va_A [(a1, .inr (17, [.int 0, .ref a2, .ref a3, .ref a4, .long 0])), (a2, .inl (T 2, 12, .inr (.inr (.inr (.inr (fun _ => none))))))] sz) t)) (va_A [(a1, .inr (17, [.int 0, .ref a2, .ref a3, .ref a4, .long 0])), (a2, .inl (T 2, 12, .inr (.inr (.inr (.inr (fun _ => none))))))] sz)) 1 12 (va_A [(a1, .inr (17, [.int 0, .ref a2, .ref a3, .ref a4, .long 0])), (a2, .inl (T 2, 12, .inr (.inr (.inr (.inr (fun _ => none))))))] sz) := by
  refine Met.ofW (cc := cX12_pass) (maxL := 7) (ret := (some .int)) (by decide +kernel) rfl ?_
  intro p e s m args below meth c s₁ B hml hv
  obtain ⟨rfl, hsz, hP, hK, hD0, hG⟩ := hv
  have hx := B.exec
  have hb := B.bytes
  have hr := B.returns
  have hts := atoms_spec (ws := wsX12_pass) B.pre
  have hown : s.vm.findClass RX12 = some m.cls := findClass_of_methodNamed B.named
  have hlocks := B.notSynchronized
  have hin_X12 : ∀ w ∈ wsX120, w ∈ wsX12_pass := by decide +kernel
  subst hsz
  have hD := hD0.self (sz := s.heap.size)
  generalize hAe : va_A [(a1, .inr (17, [.int 0, .ref a2, .ref a3, .ref a4, .long 0])), (a2, .inl (T 2, 12, .inr (.inr (.inr (.inr (fun _ => none))))))] s.heap.size = A at hD hG ⊢
  have hA : ∀ q : Nat, s.heap.size ≤ q → A q := fun q h => by rw [← hAe]; exact Or.inr h
  have hS : va_S A s.heap s.heap [] := va_S.rf
  have hl := lv_entry ([.ref a1, .int p1]) (n := 7) (Nat.le_of_ble_eq_true rfl)
  rw [lg_entry_eq]
  generalize (lg_sl ([.ref a1, .int p1]) ++ List.replicate (7 - (lg_sl ([.ref a1, .int p1])).length) Slot.unset).toArray = ls at hl ⊢
  have hl : lv_has ls 7 [(0, .ref a1), (1, .int p1)] := hl
  refine lv_aload_n hx hb dX12_pass_0 rfl (lv_at hl 0 rfl) ?_
  refine lv_iload_n hx hb dX12_pass_1 rfl (lv_at hl 1 rfl) ?_
  refine lv_i2l hx hb dX12_pass_2 rfl ?_
  refine lv_lconst (v := 1) hx hb dX12_pass_3 (by decide) ?_
  refine lv_ldc2 (v := 20) hx hb hown (hts (.constantLong RX12 261 20) (by decide +kernel)) dX12_pass_4 ?_
  have hPc := hP.sub (ws' := []) [] rfl
  have hDc := hD.sub (ws' := []) [] (by decide) rfl
  have hFc := va_free (wc := []) hD hS hA [] rfl
  refine va_calli (va_runS (As := [.long p1.toInt64, .long 1, .long 20]) (rest := [.ref a1]) ⟨hx, hb, hml, hown, hts⟩ (xcX12_isBetween_v7 l hst dC dI T s.heap.size p1.toInt64) (cwS 3 hts gX12_pass_X12_isBetween rfl rfl rfl (by decide +kernel) ⟨Nat.le_of_ble_eq_true rfl, Nat.le_of_ble_eq_true rfl⟩) ⟨xBlind, xCall hK hG hS hPc hDc hFc⟩ rfl rfl hl.1 rfl (lv_room (Nat.le_of_ble_eq_true rfl)) dX12_pass_7 ⟨Nat.le_of_ble_eq_true rfl, Nat.le_of_ble_eq_true rfl⟩) hS (fun q _ h => hFc q h) hFc (fun r_9 u t H locs ht hvm hw hB hz1 hk1 hS => ?_)
  subst hw
  rcases hB with ⟨c_1, hr_9, hP1, hD1⟩ | ⟨c_2, hr_9, hP1, hD1⟩
  · have hz_3 : (p1.toInt64).toInt = p1.toInt := Int32.toInt_toInt64 _
    rw [ht] at hP1
    subst hr_9
    obtain ⟨hP, hD⟩ := va_join (wr := [(a1, .inr (17, [.int 0, .ref a2, .ref a3, .ref a4, .long 0])), (a2, .inl (T 2, 12, .inr (.inr (.inr (.inr (fun _ => none))))))]) (w1 := []) hP hD [] [0, 1] rfl rfl (by decide) (by decide) hk1 hFc hP1 hD1
    have hP : va_P (dC, dI) vwCl [(a1, .inr (17, [.int 0, .ref a2, .ref a3, .ref a4, .long 0])), (a2, .inl (T 2, 12, .inr (.inr (.inr (.inr (fun _ => none))))))] H := hP
    have hD : va_D A [(a1, .inr (17, [.int 0, .ref a2, .ref a3, .ref a4, .long 0])), (a2, .inl (T 2, 12, .inr (.inr (.inr (.inr (fun _ => none))))))] := hD
    clear hPc hDc hFc hP1 hD1 hk1 hz1 ht hvm
    refine lv_if_eq (tgt := 17) hx hb dX12_pass_10 (by decide) (fun c_4 => ?_) (fun c_4 => absurd (by decide) c_4)
    refine lv_iconst (v := 1) hx hb dX12_pass_17 (by decide) ?_
    have hPc := hP.sub (ws' := [(a1, .inr (17, [.int 0, .ref a2, .ref a3, .ref a4, .long 0]))]) [0] rfl
    have hDc := hD.sub (ws' := [(a1, .inr (17, [.int 0, .ref a2, .ref a3, .ref a4, .long 0]))]) [0] (by decide) rfl
    have hFc := va_free (wc := [(a1, .inr (17, [.int 0, .ref a2, .ref a3, .ref a4, .long 0]))]) hD hS hA [0] rfl
    refine va_calli (va_runV (As := [.int 1]) (rest := []) ⟨hx, hb, hml, hown, hts⟩ (xcX12_isWrong l hst dC dI T a1 a2 a3 a4 H.size) (cwV 1 hts gX12_pass_X12_isWrong rfl rfl rfl (by decide +kernel) ⟨Nat.le_of_ble_eq_true rfl, Nat.le_of_ble_eq_true rfl⟩) ⟨xBlind, va_recv hK hPc (ci := 17) (q0 := 0) rfl rfl, xCall hK hG hS hPc hDc hFc⟩ rfl rfl hl.1 rfl (lv_room (Nat.le_of_ble_eq_true rfl)) dX12_pass_18 ⟨Nat.le_of_ble_eq_true rfl, Nat.le_of_ble_eq_true rfl⟩) hS (fun q _ h => hFc q h) hFc (fun r_9 u t H locs ht hvm hw hB hz1 hk1 hS => ?_)
    subst hw
    rcases hB with ⟨hr_9, hP1, hD1⟩
    rw [ht] at hP1
    subst hr_9
    obtain ⟨hP, hD⟩ := va_join (wr := [(a2, .inl (T 2, 12, .inr (.inr (.inr (.inr (fun _ => none))))))]) (w1 := [(a1, .inr (17, [.int 1, .ref a2, .ref a3, .ref a4, .long 0]))]) hP hD [0] [1] rfl rfl (by decide) (by decide) hk1 hFc hP1 hD1
    have hP := hP.sub (ws' := [(a1, .inr (17, [.int 1, .ref a2, .ref a3, .ref a4, .long 0])), (a2, .inl (T 2, 12, .inr (.inr (.inr (.inr (fun _ => none))))))]) [1, 0] rfl
    have hD := hD.sub (ws' := [(a1, .inr (17, [.int 1, .ref a2, .ref a3, .ref a4, .long 0])), (a2, .inl (T 2, 12, .inr (.inr (.inr (.inr (fun _ => none))))))]) [1, 0] (by decide) rfl
    clear hPc hDc hFc hP1 hD1 hk1 hz1 ht hvm
    refine lv_if_eq (tgt := 26) hx hb dX12_pass_21 (by decide) (fun c_6 => absurd c_6 (by decide)) (fun c_6 => ?_)
    refine lv_iconst (v := 0) hx hb dX12_pass_24 (by decide) ?_
    have hP9 := hP.sub (ws' := [(a1, .inr (17, [.int 1, .ref a2, .ref a3, .ref a4, .long 0]))]) [0] rfl
    have hD9 := hD.sub (ws' := [(a1, .inr (17, [.int 1, .ref a2, .ref a3, .ref a4, .long 0]))]) [0] (by decide) rfl
    refine W.widen (k := 1) (n := 12) (Nat.le_of_ble_eq_true rfl) (Nat.le_of_ble_eq_true rfl) ?_
    exact W.iret (v := 0) hx hb hr (fun t ht hW => ⟨⟨_, _, rfl, rfl, (Or.inl ⟨c_1, rfl, by rw [ht]; exact hP9, hD9⟩)⟩, hS.F ht⟩) hS.2.2 dX12_pass_25
  · have hz_7 : (p1.toInt64).toInt = p1.toInt := Int32.toInt_toInt64 _
    rw [ht] at hP1
    subst hr_9
    obtain ⟨hP, hD⟩ := va_join (wr := [(a1, .inr (17, [.int 0, .ref a2, .ref a3, .ref a4, .long 0])), (a2, .inl (T 2, 12, .inr (.inr (.inr (.inr (fun _ => none))))))]) (w1 := []) hP hD [] [0, 1] rfl rfl (by decide) (by decide) hk1 hFc hP1 hD1
    have hP : va_P (dC, dI) vwCl [(a1, .inr (17, [.int 0, .ref a2, .ref a3, .ref a4, .long 0])), (a2, .inl (T 2, 12, .inr (.inr (.inr (.inr (fun _ => none))))))] H := hP
    have hD : va_D A [(a1, .inr (17, [.int 0, .ref a2, .ref a3, .ref a4, .long 0])), (a2, .inl (T 2, 12, .inr (.inr (.inr (.inr (fun _ => none))))))] := hD
    clear hPc hDc hFc hP1 hD1 hk1 hz1 ht hvm
    refine lv_if_eq (tgt := 17) hx hb dX12_pass_10 (by decide) (fun c_8 => absurd c_8 (by decide)) (fun c_8 => ?_)
    refine lv_iconst (v := 0) hx hb dX12_pass_13 (by decide) ?_
    refine lv_goto (tgt := 18) hx hb dX12_pass_14 (by decide) ?_
    have hPc := hP.sub (ws' := [(a1, .inr (17, [.int 0, .ref a2, .ref a3, .ref a4, .long 0]))]) [0] rfl
    have hDc := hD.sub (ws' := [(a1, .inr (17, [.int 0, .ref a2, .ref a3, .ref a4, .long 0]))]) [0] (by decide) rfl
    have hFc := va_free (wc := [(a1, .inr (17, [.int 0, .ref a2, .ref a3, .ref a4, .long 0]))]) hD hS hA [0] rfl
    refine va_calli (va_runV (As := [.int 0]) (rest := []) ⟨hx, hb, hml, hown, hts⟩ (xcX12_isWrong_v2 l hst dC dI T a1 a2 a3 a4 H.size) (cwV 1 hts gX12_pass_X12_isWrong rfl rfl rfl (by decide +kernel) ⟨Nat.le_of_ble_eq_true rfl, Nat.le_of_ble_eq_true rfl⟩) ⟨xBlind, va_recv hK hPc (ci := 17) (q0 := 0) rfl rfl, xCall hK hG hS hPc hDc hFc⟩ rfl rfl hl.1 rfl (lv_room (Nat.le_of_ble_eq_true rfl)) dX12_pass_18 ⟨Nat.le_of_ble_eq_true rfl, Nat.le_of_ble_eq_true rfl⟩) hS (fun q _ h => hFc q h) hFc (fun r_9 u t H locs ht hvm hw hB hz1 hk1 hS => ?_)
    subst hw
    rcases hB with ⟨hr_9, hP1, hD1⟩
    rw [ht] at hP1
    subst hr_9
    obtain ⟨hP, hD⟩ := va_join (wr := [(a2, .inl (T 2, 12, .inr (.inr (.inr (.inr (fun _ => none))))))]) (w1 := [(a1, .inr (17, [.int 0, .ref a2, .ref a3, .ref a4, .long 0]))]) hP hD [0] [1] rfl rfl (by decide) (by decide) hk1 hFc hP1 hD1
    have hP := hP.sub (ws' := [(a1, .inr (17, [.int 0, .ref a2, .ref a3, .ref a4, .long 0])), (a2, .inl (T 2, 12, .inr (.inr (.inr (.inr (fun _ => none))))))]) [1, 0] rfl
    have hD := hD.sub (ws' := [(a1, .inr (17, [.int 0, .ref a2, .ref a3, .ref a4, .long 0])), (a2, .inl (T 2, 12, .inr (.inr (.inr (.inr (fun _ => none))))))]) [1, 0] (by decide) rfl
    clear hPc hDc hFc hP1 hD1 hk1 hz1 ht hvm
    refine lv_if_eq (tgt := 26) hx hb dX12_pass_21 (by decide) (fun c_10 => ?_) (fun c_10 => absurd (by decide) c_10)
    refine lv_aload_n hx hb dX12_pass_26 rfl (lv_at hl 0 rfl) ?_
    refine lv_iload_n hx hb dX12_pass_27 rfl (lv_at hl 1 rfl) ?_
    have hPc := hP.sub (ws' := [(a1, .inr (17, [.int 0, .ref a2, .ref a3, .ref a4, .long 0])), (a2, .inl (T 2, 12, .inr (.inr (.inr (.inr (fun _ => none))))))]) [0, 1] rfl
    have hDc := hD.sub (ws' := [(a1, .inr (17, [.int 0, .ref a2, .ref a3, .ref a4, .long 0])), (a2, .inl (T 2, 12, .inr (.inr (.inr (.inr (fun _ => none))))))]) [0, 1] (by decide) rfl
    have hFc := va_free (wc := [(a1, .inr (17, [.int 0, .ref a2, .ref a3, .ref a4, .long 0])), (a2, .inl (T 2, 12, .inr (.inr (.inr (.inr (fun _ => none))))))]) hD hS hA [0, 1] rfl
    refine va_callr (va_runV (As := [.int p1]) (rest := []) ⟨hx, hb, hml, hown, hts⟩ (xcX12_behind l hst dC dI T a1 a2 a3 a4 H.size p1) (cwV 1 hts gX12_pass_X12_behind rfl rfl rfl (by decide +kernel) ⟨Nat.le_of_ble_eq_true rfl, Nat.le_of_ble_eq_true rfl⟩) ⟨xBlind, va_recv hK hPc (ci := 17) (q0 := 0) rfl rfl, xCall hK hG hS hPc hDc hFc⟩ rfl rfl hl.1 rfl (lv_room (Nat.le_of_ble_eq_true rfl)) dX12_pass_28 ⟨Nat.le_of_ble_eq_true rfl, Nat.le_of_ble_eq_true rfl⟩) hS (fun q _ h => hFc q h) hFc (fun u ra t H locs ht hvm hw hB hz1 hk1 hS => ?_)
    rcases hB with ⟨q_11, hr_9, hP1, hD1⟩
    rw [ht] at hP1
    subst hr_9
    obtain ⟨hP, hD⟩ := va_join (wr := []) (w1 := [(a1, .inr (17, [.int 0, .ref a2, .ref a3, .ref a4, .long 0])), (a2, .inl (T 2, 12, .inr (.inr (.inr (.inr (fun _ => none)))))), (q_11, .inl (T 2, 12, .inr (.inr (.inr (.inr (fun _ => none))))))]) hP hD [0, 1] [] rfl rfl (by decide) (by decide) hk1 hFc hP1 hD1
    have hP : va_P (dC, dI) vwCl [(a1, .inr (17, [.int 0, .ref a2, .ref a3, .ref a4, .long 0])), (a2, .inl (T 2, 12, .inr (.inr (.inr (.inr (fun _ => none)))))), (q_11, .inl (T 2, 12, .inr (.inr (.inr (.inr (fun _ => none))))))] H := hP
    have hD : va_D A [(a1, .inr (17, [.int 0, .ref a2, .ref a3, .ref a4, .long 0])), (a2, .inl (T 2, 12, .inr (.inr (.inr (.inr (fun _ => none)))))), (q_11, .inl (T 2, 12, .inr (.inr (.inr (.inr (fun _ => none))))))] := hD
    clear hPc hDc hFc hP1 hD1 hk1 hz1 ht hvm
    refine lv_astore_n (lv' := [(2, .ref q_11), (0, .ref a1), (1, .int p1)]) hx hb dX12_pass_31 rfl hl (by decide) rfl (fun ls hl => ?_)
    refine lv_iconst (v := 1) hx hb dX12_pass_32 (by decide) ?_
    refine lv_istore_n (lv' := [(3, .int 1), (2, .ref q_11), (0, .ref a1), (1, .int p1)]) hx hb dX12_pass_33 rfl hl (by decide) rfl (fun ls hl => ?_)
    refine lv_iconst (v := 0) hx hb dX12_pass_34 (by decide) ?_
    refine lv_istore (lv' := [(4, .int 0), (3, .int 1), (2, .ref q_11), (0, .ref a1), (1, .int p1)]) hx hb dX12_pass_35 hl (by decide) rfl (fun ls hl => ?_)
    refine lv_iconst (v := 0) hx hb dX12_pass_37 (by decide) ?_
    refine lv_istore (lv' := [(5, .int 0), (4, .int 0), (3, .int 1), (2, .ref q_11), (0, .ref a1), (1, .int p1)]) hx hb dX12_pass_38 hl (by decide) rfl (fun ls hl => ?_)
    refine xLoop (P := fun i_k_13 H locs ls => va_P (dC, dI) vwCl [(a1, .inr (17, [.int 0, .ref a2, .ref a3, .ref a4, .long 0])), (a2, .inl (T 2, 12, .inr (.inr (.inr (.inr (fun _ => none)))))), (q_11, .inl (T 2, 12, .inr (.inr (.inr (.inr (fun _ => none))))))] H ∧ va_D A [(a1, .inr (17, [.int 0, .ref a2, .ref a3, .ref a4, .long 0])), (a2, .inl (T 2, 12, .inr (.inr (.inr (.inr (fun _ => none)))))), (q_11, .inl (T 2, 12, .inr (.inr (.inr (.inr (fun _ => none))))))] ∧ va_S A s.heap H locs ∧ lv_has ls 7 [(5, .int (nI i_k_13)), (4, .int 0), (3, .int 1), (2, .ref q_11), (0, .ref a1)]) (N := 12) (fun i_k_13 H locs ls hi_k_13 hI ih_k_13 => ?_) (0) _ _ _ (by omega) ⟨hP, hD, hS, lv_sub hl [0, 1, 2, 3, 4] rfl⟩
    obtain ⟨hP, hD, hS, hl⟩ := hI
    refine lv_iload hx hb dX12_pass_40 (lv_at hl 0 rfl) ?_
    refine lv_bipush (v := 12) hx hb dX12_pass_42 (by decide) ?_
    have hz_15 : (nI i_k_13).toInt = ((i_k_13 : Nat) : Int) := nI_toInt (by omega)
    refine lv_icmp_ge (tgt := 172) hx hb dX12_pass_44 (by decide) (fun c_14 => ?_) (fun c_14 => ?_)
    · have nc_14 : 12 ≤ (nI i_k_13).toInt := (xi_le (by decide +kernel) rfl).mp c_14
      refine lv_aload_n hx hb dX12_pass_172 rfl (lv_at hl 4 rfl) ?_
      refine lv_iload_n hx hb dX12_pass_173 rfl (lv_at hl 2 rfl) ?_
      refine lv_if_eq (tgt := 181) hx hb dX12_pass_174 (by decide) (fun c_16 => absurd c_16 (by decide)) (fun c_16 => ?_)
      refine lv_iconst (v := 0) hx hb dX12_pass_177 (by decide) ?_
      refine lv_goto (tgt := 182) hx hb dX12_pass_178 (by decide) ?_
      have hPc := hP.sub (ws' := [(a1, .inr (17, [.int 0, .ref a2, .ref a3, .ref a4, .long 0]))]) [0] rfl
      have hDc := hD.sub (ws' := [(a1, .inr (17, [.int 0, .ref a2, .ref a3, .ref a4, .long 0]))]) [0] (by decide) rfl
      have hFc := va_free (wc := [(a1, .inr (17, [.int 0, .ref a2, .ref a3, .ref a4, .long 0]))]) hD hS hA [0] rfl
      refine va_calli (va_runV (As := [.int 0]) (rest := []) ⟨hx, hb, hml, hown, hts⟩ (xcX12_isWrong_v2 l hst dC dI T a1 a2 a3 a4 H.size) (cwV 1 hts gX12_pass_X12_isWrong rfl rfl rfl (by decide +kernel) ⟨Nat.le_of_ble_eq_true rfl, Nat.le_of_ble_eq_true rfl⟩) ⟨xBlind, va_recv hK hPc (ci := 17) (q0 := 0) rfl rfl, xCall hK hG hS hPc hDc hFc⟩ rfl rfl hl.1 rfl (lv_room (Nat.le_of_ble_eq_true rfl)) dX12_pass_182 ⟨Nat.le_of_ble_eq_true rfl, Nat.le_of_ble_eq_true rfl⟩) hS (fun q _ h => hFc q h) hFc (fun r_9 u t H locs ht hvm hw hB hz1 hk1 hS => ?_)
      subst hw
      rcases hB with ⟨hr_9, hP1, hD1⟩
      rw [ht] at hP1
      subst hr_9
      obtain ⟨hP, hD⟩ := va_join (wr := [(a2, .inl (T 2, 12, .inr (.inr (.inr (.inr (fun _ => none)))))), (q_11, .inl (T 2, 12, .inr (.inr (.inr (.inr (fun _ => none))))))]) (w1 := [(a1, .inr (17, [.int 0, .ref a2, .ref a3, .ref a4, .long 0]))]) hP hD [0] [1, 2] rfl rfl (by decide) (by decide) hk1 hFc hP1 hD1
      have hP := hP.sub (ws' := [(a1, .inr (17, [.int 0, .ref a2, .ref a3, .ref a4, .long 0])), (a2, .inl (T 2, 12, .inr (.inr (.inr (.inr (fun _ => none)))))), (q_11, .inl (T 2, 12, .inr (.inr (.inr (.inr (fun _ => none))))))]) [2, 0, 1] rfl
      have hD := hD.sub (ws' := [(a1, .inr (17, [.int 0, .ref a2, .ref a3, .ref a4, .long 0])), (a2, .inl (T 2, 12, .inr (.inr (.inr (.inr (fun _ => none)))))), (q_11, .inl (T 2, 12, .inr (.inr (.inr (.inr (fun _ => none))))))]) [2, 0, 1] (by decide) rfl
      clear hPc hDc hFc hP1 hD1 hk1 hz1 ht hvm
      refine lv_if_eq (tgt := 190) hx hb dX12_pass_185 (by decide) (fun c_18 => ?_) (fun c_18 => absurd (by decide) c_18)
      refine lv_aload_n hx hb dX12_pass_190 rfl (lv_at hl 4 rfl) ?_
      refine lv_aload_n hx hb dX12_pass_191 rfl (lv_at hl 3 rfl) ?_
      refine va_put (D := (dC, dI)) (ci := 17) (v := .ref q_11) (ty := .array (.array .int)) (C := RX12) (T := TX12) (N := 5) hx hb hts hin_X12 tyX12 tyX12_ok nmX12 hown hK hP hD hS 0 rfl rfl 1 (by decide) (hts (.fieldLink RX12 11 "NearestwardModel" "points" "[[I") (by decide +kernel)) (fun _ h9 => h9) rfl (by decide +kernel) rfl rfl (Nat.le_of_ble_eq_true rfl) dX12_pass_192 (fun H locs hP hD hS => ?_)
      have hP : va_P (dC, dI) vwCl [(a1, .inr (17, [.int 0, .ref q_11, .ref a3, .ref a4, .long 0])), (a2, .inl (T 2, 12, .inr (.inr (.inr (.inr (fun _ => none)))))), (q_11, .inl (T 2, 12, .inr (.inr (.inr (.inr (fun _ => none))))))] H := hP
      have hD : va_D A [(a1, .inr (17, [.int 0, .ref q_11, .ref a3, .ref a4, .long 0])), (a2, .inl (T 2, 12, .inr (.inr (.inr (.inr (fun _ => none)))))), (q_11, .inl (T 2, 12, .inr (.inr (.inr (.inr (fun _ => none))))))] := hD
      refine lv_iload hx hb dX12_pass_195 (lv_at hl 1 rfl) ?_
      have hP9 := hP.sub (ws' := [(a1, .inr (17, [.int 0, .ref q_11, .ref a3, .ref a4, .long 0]))]) [0] rfl
      have hD9 := hD.sub (ws' := [(a1, .inr (17, [.int 0, .ref q_11, .ref a3, .ref a4, .long 0]))]) [0] (by decide) rfl
      exact W.iret (v := 0) hx hb hr (fun t ht hW => ⟨⟨_, _, rfl, rfl, (Or.inr (⟨q_11, c_2, rfl, by rw [ht]; exact hP9, hD9⟩))⟩, hS.F ht⟩) hS.2.2 dX12_pass_197
    · have nc_14 : ¬ (12 ≤ (nI i_k_13).toInt) := mt (xi_le (by decide +kernel) rfl).mpr c_14
      refine lv_aload_n hx hb dX12_pass_47 rfl (lv_at hl 3 rfl) ?_
      refine lv_iload hx hb dX12_pass_48 (lv_at hl 0 rfl) ?_
      refine xAldq hx hb hK hP 2 2 rfl rfl (vp_in_nI (by omega) (by decide)) dX12_pass_50 ?_
      refine lv_ifnonnullN hx hb dX12_pass_51 ?_
      refine lv_goto (tgt := 166) hx hb dX12_pass_54 (by decide) ?_
      refine lv_iinc (v := (nI (i_k_13 + 1))) (lv' := [(5, .int (nI (i_k_13 + 1))), (4, .int 0), (3, .int 1), (2, .ref q_11), (0, .ref a1)]) hx hb dX12_pass_166 hl (k := 0) rfl (nI_1 _) (by decide) rfl (fun ls hl => ?_)
      refine lv_goto (tgt := 40) hx hb dX12_pass_169 (by decide) ?_
      exact ih_k_13 _ _ _ (by omega) ⟨hP, hD, hS, lv_sub hl [0, 1, 2, 3, 4] rfl⟩
