set_option maxHeartbeats 4000000 in
set_option maxRecDepth 100000 in
theorem xcX12_pointAt (l : Launch) (hst : l.stackTraces = false) (dC : Nat → ClassId) (dI : Nat → Nat → Nat) (T : Nat → ClassId) (a1 : Nat) (a2 : Nat) (a3 : Nat) (a4 : Nat) (sz : Nat) (p1 : Int32) (p2 : Int32) : Met l yX12_pointAt wsX12_pointAt ({ frames := 1, cells := 0, slots := 0, locals := 24 } : Room) (va_Pc [.ref a1, .int p1, .int p2] (fun U => xB dC dI T [(a1, .inr (17, [.int 0, .ref a2, .ref a3, .ref a4, .long 0])), (a2, .inl (T 2, 12, .inr (.inr (.inr (.inr (fun _ => none))))))] sz U)) (va_Qi (fun (r u : Int32) => r = u) (fun (u : Int32) (t : State) => 0 = u ∧ xE dC dI [(a1, .inr (17, [.int 1, .ref a2, .ref a3, .ref a4, .long 0]))] (va_A [(a1, .inr (17, [.int 0, .ref a2, .ref a3, .ref a4, .long 0])), (a2, .inl (T 2, 12, .inr (.inr (.inr (.inr (fun _ => none))))))] sz) t) (va_A [(a1, .inr (17, [.int 0, .ref a2, .ref a3, .ref a4, .long 0])), (a2, .inl (T 2, 12, .inr (.inr (.inr (.inr (fun _ => none))))))] sz)) 0 0 (va_A [(a1, .inr (17, [.int 0, .ref a2, .ref a3, .ref a4, .long 0])), (a2, .inl (T 2, 12, .inr (.inr (.inr (.inr (fun _ => none))))))] sz) := by
  refine Met.ofW (cc := cX12_pointAt) (maxL := 3) (ret := (some .int)) (by decide +kernel) rfl ?_
  intro p e s m args below meth c s₁ B hml hv
  obtain ⟨rfl, hsz, hP, hK, hD0, hG⟩ := hv
  have hx := B.exec
  have hb := B.bytes
  have hr := B.returns
  have hts := atoms_spec (ws := wsX12_pointAt) B.pre
  have hown : s.vm.findClass RX12 = some m.cls := findClass_of_methodNamed B.named
  have hlocks := B.notSynchronized
  subst hsz
  have hD := hD0.self (sz := s.heap.size)
  generalize hAe : va_A [(a1, .inr (17, [.int 0, .ref a2, .ref a3, .ref a4, .long 0])), (a2, .inl (T 2, 12, .inr (.inr (.inr (.inr (fun _ => none))))))] s.heap.size = A at hD hG ⊢
  have hA : ∀ q : Nat, s.heap.size ≤ q → A q := fun q h => by rw [← hAe]; exact Or.inr h
  have hS : va_S A s.heap s.heap [] := va_S.rf
  have hl := lv_entry ([.ref a1, .int p1, .int p2]) (n := 3) (Nat.le_of_ble_eq_true rfl)
  rw [lg_entry_eq]
  generalize (lg_sl ([.ref a1, .int p1, .int p2]) ++ List.replicate (3 - (lg_sl ([.ref a1, .int p1, .int p2])).length) Slot.unset).toArray = ls at hl ⊢
  have hl : lv_has ls 3 [(0, .ref a1), (1, .int p1), (2, .int p2)] := hl
  refine lv_aload_n hx hb dX12_pointAt_0 rfl (lv_at hl 0 rfl) ?_
  refine lv_aload_n hx hb dX12_pointAt_1 rfl (lv_at hl 0 rfl) ?_
  refine lv_iload_n hx hb dX12_pointAt_2 rfl (lv_at hl 1 rfl) ?_
  refine lv_iload_n hx hb dX12_pointAt_3 rfl (lv_at hl 2 rfl) ?_
  have hPc := hP.sub (ws' := [(a1, .inr (17, [.int 0, .ref a2, .ref a3, .ref a4, .long 0])), (a2, .inl (T 2, 12, .inr (.inr (.inr (.inr (fun _ => none))))))]) [0, 1] rfl
  have hDc := hD.sub (ws' := [(a1, .inr (17, [.int 0, .ref a2, .ref a3, .ref a4, .long 0])), (a2, .inl (T 2, 12, .inr (.inr (.inr (.inr (fun _ => none))))))]) [0, 1] (by decide) rfl
  have hFc := va_free (wc := [(a1, .inr (17, [.int 0, .ref a2, .ref a3, .ref a4, .long 0])), (a2, .inl (T 2, 12, .inr (.inr (.inr (.inr (fun _ => none))))))]) hD hS hA [0, 1] rfl
  refine va_calli (va_runV (As := [.int p1, .int p2]) (rest := [.ref a1]) ⟨hx, hb, hml, hown, hts⟩ (xcX12_at l hst dC dI T a1 a2 a3 a4 s.heap.size p1 p2) (cwV 2 hts gX12_pointAt_X12_at rfl rfl rfl (by decide +kernel) ⟨Nat.le_of_ble_eq_true rfl, Nat.le_of_ble_eq_true rfl⟩) ⟨xBlind, va_recv hK hPc (ci := 17) (q0 := 0) rfl rfl, xCall hK hG hS hPc hDc hFc⟩ rfl rfl hl.1 rfl (lv_room (Nat.le_of_ble_eq_true rfl)) dX12_pointAt_4 ⟨Nat.le_of_ble_eq_true rfl, Nat.le_of_ble_eq_true rfl⟩) hS (fun q _ h => hFc q h) hFc (fun r_9 u t H locs ht hvm hw hB hz1 hk1 hS => ?_)
  subst hw
  rcases hB with ⟨hr_9, hP1, hD1⟩
  rw [ht] at hP1
  subst hr_9
  obtain ⟨hP, hD⟩ := va_join (wr := []) (w1 := [(a1, .inr (17, [.int 0, .ref a2, .ref a3, .ref a4, .long 0])), (a2, .inl (T 2, 12, .inr (.inr (.inr (.inr (fun _ => none))))))]) hP hD [0, 1] [] rfl rfl (by decide) (by decide) hk1 hFc hP1 hD1
  have hP : va_P (dC, dI) vwCl [(a1, .inr (17, [.int 0, .ref a2, .ref a3, .ref a4, .long 0])), (a2, .inl (T 2, 12, .inr (.inr (.inr (.inr (fun _ => none))))))] H := hP
  have hD : va_D A [(a1, .inr (17, [.int 0, .ref a2, .ref a3, .ref a4, .long 0])), (a2, .inl (T 2, 12, .inr (.inr (.inr (.inr (fun _ => none))))))] := hD
  clear hPc hDc hFc hP1 hD1 hk1 hz1 ht hvm
  refine lv_iconst (v := (-1)) hx hb dX12_pointAt_7 (by decide) ?_
  refine lv_icmp_ne (tgt := 15) hx hb dX12_pointAt_8 (by decide) (fun c_2 => absurd c_2 (by decide)) (fun c_2 => ?_)
  refine lv_iconst (v := 1) hx hb dX12_pointAt_11 (by decide) ?_
  refine lv_goto (tgt := 16) hx hb dX12_pointAt_12 (by decide) ?_
  have hPc := hP.sub (ws' := [(a1, .inr (17, [.int 0, .ref a2, .ref a3, .ref a4, .long 0]))]) [0] rfl
  have hDc := hD.sub (ws' := [(a1, .inr (17, [.int 0, .ref a2, .ref a3, .ref a4, .long 0]))]) [0] (by decide) rfl
  have hFc := va_free (wc := [(a1, .inr (17, [.int 0, .ref a2, .ref a3, .ref a4, .long 0]))]) hD hS hA [0] rfl
  refine va_calli (va_runV (As := [.int 1]) (rest := []) ⟨hx, hb, hml, hown, hts⟩ (xcX12_isWrong l hst dC dI T a1 a2 a3 a4 H.size) (cwV 1 hts gX12_pointAt_X12_isWrong rfl rfl rfl (by decide +kernel) ⟨Nat.le_of_ble_eq_true rfl, Nat.le_of_ble_eq_true rfl⟩) ⟨xBlind, va_recv hK hPc (ci := 17) (q0 := 0) rfl rfl, xCall hK hG hS hPc hDc hFc⟩ rfl rfl hl.1 rfl (lv_room (Nat.le_of_ble_eq_true rfl)) dX12_pointAt_16 ⟨Nat.le_of_ble_eq_true rfl, Nat.le_of_ble_eq_true rfl⟩) hS (fun q _ h => hFc q h) hFc (fun r_9 u t H locs ht hvm hw hB hz1 hk1 hS => ?_)
  subst hw
  rcases hB with ⟨hr_9, hP1, hD1⟩
  rw [ht] at hP1
  subst hr_9
  obtain ⟨hP, hD⟩ := va_join (wr := [(a2, .inl (T 2, 12, .inr (.inr (.inr (.inr (fun _ => none))))))]) (w1 := [(a1, .inr (17, [.int 1, .ref a2, .ref a3, .ref a4, .long 0]))]) hP hD [0] [1] rfl rfl (by decide) (by decide) hk1 hFc hP1 hD1
  have hP := hP.sub (ws' := [(a1, .inr (17, [.int 1, .ref a2, .ref a3, .ref a4, .long 0])), (a2, .inl (T 2, 12, .inr (.inr (.inr (.inr (fun _ => none))))))]) [1, 0] rfl
  have hD := hD.sub (ws' := [(a1, .inr (17, [.int 1, .ref a2, .ref a3, .ref a4, .long 0])), (a2, .inl (T 2, 12, .inr (.inr (.inr (.inr (fun _ => none))))))]) [1, 0] (by decide) rfl
  clear hPc hDc hFc hP1 hD1 hk1 hz1 ht hvm
  refine lv_if_eq (tgt := 26) hx hb dX12_pointAt_19 (by decide) (fun c_4 => absurd c_4 (by decide)) (fun c_4 => ?_)
  refine lv_iconst (v := 0) hx hb dX12_pointAt_22 (by decide) ?_
  refine lv_goto (tgt := 32) hx hb dX12_pointAt_23 (by decide) ?_
  have hP9 := hP.sub (ws' := [(a1, .inr (17, [.int 1, .ref a2, .ref a3, .ref a4, .long 0]))]) [0] rfl
  have hD9 := hD.sub (ws' := [(a1, .inr (17, [.int 1, .ref a2, .ref a3, .ref a4, .long 0]))]) [0] (by decide) rfl
  exact W.iret (v := 0) hx hb hr (fun t ht hW => ⟨⟨_, _, rfl, rfl, ⟨rfl, by rw [ht]; exact hP9, hD9⟩⟩, hS.F ht⟩) hS.2.2 dX12_pointAt_32
set_option maxHeartbeats 4000000 in
set_option maxRecDepth 100000 in
theorem xcX12_remove (l : Launch) (hst : l.stackTraces = false) (dC : Nat → ClassId) (dI : Nat → Nat → Nat) (T : Nat → ClassId) (a1 : Nat) (a2 : Nat) (a3 : Nat) (a4 : Nat) (sz : Nat) (p1 : Int32) : Met l yX12_remove wsX12_remove ({ frames := 3, cells := 0, slots := 0, locals := 67 } : Room) (va_Pc [.ref a1, .int p1] (fun U => xB dC dI T [(a1, .inr (17, [.int 0, .ref a2, .ref a3, .ref a4, .long 0])), (a2, .inl (T 2, 12, .inr (.inr (.inr (.inr (fun _ => none))))))] sz U)) (va_Qi (fun (r u : Int32) => r = u) (fun (u : Int32) (t : State) => 0 = u ∧ xE dC dI [(a1, .inr (17, [.int 1, .ref a2, .ref a3, .ref a4, .long 0]))] (va_A [(a1, .inr (17, [.int 0, .ref a2, .ref a3, .ref a4, .long 0])), (a2, .inl (T 2, 12, .inr (.inr (.inr (.inr (fun _ => none))))))] sz) t) (va_A [(a1, .inr (17, [.int 0, .ref a2, .ref a3, .ref a4, .long 0])), (a2, .inl (T 2, 12, .inr (.inr (.inr (.inr (fun _ => none))))))] sz)) 0 0 (va_A [(a1, .inr (17, [.int 0, .ref a2, .ref a3, .ref a4, .long 0])), (a2, .inl (T 2, 12, .inr (.inr (.inr (.inr (fun _ => none))))))] sz) := by
  refine Met.ofW (cc := cX12_remove) (maxL := 2) (ret := (some .int)) (by decide +kernel) rfl ?_
  intro p e s m args below meth c s₁ B hml hv
  obtain ⟨rfl, hsz, hP, hK, hD0, hG⟩ := hv
  have hx := B.exec
  have hb := B.bytes
  have hr := B.returns
  have hts := atoms_spec (ws := wsX12_remove) B.pre
  have hown : s.vm.findClass RX12 = some m.cls := findClass_of_methodNamed B.named
  have hlocks := B.notSynchronized
  subst hsz
  have hD := hD0.self (sz := s.heap.size)
  generalize hAe : va_A [(a1, .inr (17, [.int 0, .ref a2, .ref a3, .ref a4, .long 0])), (a2, .inl (T 2, 12, .inr (.inr (.inr (.inr (fun _ => none))))))] s.heap.size = A at hD hG ⊢
  have hA : ∀ q : Nat, s.heap.size ≤ q → A q := fun q h => by rw [← hAe]; exact Or.inr h
  have hS : va_S A s.heap s.heap [] := va_S.rf
  have hl := lv_entry ([.ref a1, .int p1]) (n := 2) (Nat.le_of_ble_eq_true rfl)
  rw [lg_entry_eq]
  generalize (lg_sl ([.ref a1, .int p1]) ++ List.replicate (2 - (lg_sl ([.ref a1, .int p1])).length) Slot.unset).toArray = ls at hl ⊢
  have hl : lv_has ls 2 [(0, .ref a1), (1, .int p1)] := hl
  refine lv_aload_n hx hb dX12_remove_0 rfl (lv_at hl 0 rfl) ?_
  refine lv_iload_n hx hb dX12_remove_1 rfl (lv_at hl 1 rfl) ?_
  have hPc := hP.sub (ws' := [(a1, .inr (17, [.int 0, .ref a2, .ref a3, .ref a4, .long 0])), (a2, .inl (T 2, 12, .inr (.inr (.inr (.inr (fun _ => none))))))]) [0, 1] rfl
  have hDc := hD.sub (ws' := [(a1, .inr (17, [.int 0, .ref a2, .ref a3, .ref a4, .long 0])), (a2, .inl (T 2, 12, .inr (.inr (.inr (.inr (fun _ => none))))))]) [0, 1] (by decide) rfl
  have hFc := va_free (wc := [(a1, .inr (17, [.int 0, .ref a2, .ref a3, .ref a4, .long 0])), (a2, .inl (T 2, 12, .inr (.inr (.inr (.inr (fun _ => none))))))]) hD hS hA [0, 1] rfl
  refine va_calli (va_runV (As := [.int p1]) (rest := []) ⟨hx, hb, hml, hown, hts⟩ (xcX12_isNoPoint l hst dC dI T a1 a2 a3 a4 s.heap.size p1) (cwV 1 hts gX12_remove_X12_isNoPoint rfl rfl rfl (by decide +kernel) ⟨Nat.le_of_ble_eq_true rfl, Nat.le_of_ble_eq_true rfl⟩) ⟨xBlind, va_recv hK hPc (ci := 17) (q0 := 0) rfl rfl, xCall hK hG hS hPc hDc hFc⟩ rfl rfl hl.1 rfl (lv_room (Nat.le_of_ble_eq_true rfl)) dX12_remove_2 ⟨Nat.le_of_ble_eq_true rfl, Nat.le_of_ble_eq_true rfl⟩) hS (fun q _ h => hFc q h) hFc (fun r_9 u t H locs ht hvm hw hB hz1 hk1 hS => ?_)
  subst hw
  rcases hB with ⟨hr_9, hP1, hD1⟩
  rw [ht] at hP1
  subst hr_9
  obtain ⟨hP, hD⟩ := va_join (wr := []) (w1 := [(a1, .inr (17, [.int 1, .ref a2, .ref a3, .ref a4, .long 0])), (a2, .inl (T 2, 12, .inr (.inr (.inr (.inr (fun _ => none))))))]) hP hD [0, 1] [] rfl rfl (by decide) (by decide) hk1 hFc hP1 hD1
  have hP : va_P (dC, dI) vwCl [(a1, .inr (17, [.int 1, .ref a2, .ref a3, .ref a4, .long 0])), (a2, .inl (T 2, 12, .inr (.inr (.inr (.inr (fun _ => none))))))] H := hP
  have hD : va_D A [(a1, .inr (17, [.int 1, .ref a2, .ref a3, .ref a4, .long 0])), (a2, .inl (T 2, 12, .inr (.inr (.inr (.inr (fun _ => none))))))] := hD
  clear hPc hDc hFc hP1 hD1 hk1 hz1 ht hvm
  refine lv_if_eq (tgt := 10) hx hb dX12_remove_5 (by decide) (fun c_2 => absurd c_2 (by decide)) (fun c_2 => ?_)
  refine lv_iconst (v := 0) hx hb dX12_remove_8 (by decide) ?_
  have hP9 := hP.sub (ws' := [(a1, .inr (17, [.int 1, .ref a2, .ref a3, .ref a4, .long 0]))]) [0] rfl
  have hD9 := hD.sub (ws' := [(a1, .inr (17, [.int 1, .ref a2, .ref a3, .ref a4, .long 0]))]) [0] (by decide) rfl
  exact W.iret (v := 0) hx hb hr (fun t ht hW => ⟨⟨_, _, rfl, rfl, ⟨rfl, by rw [ht]; exact hP9, hD9⟩⟩, hS.F ht⟩) hS.2.2 dX12_remove_9
set_option maxHeartbeats 4000000 in
set_option maxRecDepth 100000 in
theorem xcX12_sees (l : Launch) (hst : l.stackTraces = false) (dC : Nat → ClassId) (dI : Nat → Nat → Nat) (T : Nat → ClassId) (a1 : Nat) (a2 : Nat) (a3 : Nat) (a4 : Nat) (sz : Nat) (p1 : Int32) (p2 : Int32) (p3 : Int32) : Met l yX12_sees wsX12_sees ({ frames := 3, cells := 0, slots := 0, locals := 67 } : Room) (va_Pc [.ref a1, .int p1, .int p2, .int p3] (fun U => xB dC dI T [(a1, .inr (17, [.int 0, .ref a2, .ref a3, .ref a4, .long 0])), (a2, .inl (T 2, 12, .inr (.inr (.inr (.inr (fun _ => none))))))] sz U)) (va_Qi (fun (r u : Int32) => r = u) (fun (u : Int32) (t : State) => 0 = u ∧ xE dC dI [(a1, .inr (17, [.int 1, .ref a2, .ref a3, .ref a4, .long 0]))] (va_A [(a1, .inr (17, [.int 0, .ref a2, .ref a3, .ref a4, .long 0])), (a2, .inl (T 2, 12, .inr (.inr (.inr (.inr (fun _ => none))))))] sz) t) (va_A [(a1, .inr (17, [.int 0, .ref a2, .ref a3, .ref a4, .long 0])), (a2, .inl (T 2, 12, .inr (.inr (.inr (.inr (fun _ => none))))))] sz)) 0 0 (va_A [(a1, .inr (17, [.int 0, .ref a2, .ref a3, .ref a4, .long 0])), (a2, .inl (T 2, 12, .inr (.inr (.inr (.inr (fun _ => none))))))] sz) := by
  refine Met.ofW (cc := cX12_sees) (maxL := 4) (ret := (some .boolean)) (by decide +kernel) rfl ?_
  intro p e s m args below meth c s₁ B hml hv
  obtain ⟨rfl, hsz, hP, hK, hD0, hG⟩ := hv
  have hx := B.exec
  have hb := B.bytes
  have hr := B.returns
  have hts := atoms_spec (ws := wsX12_sees) B.pre
  have hown : s.vm.findClass RX12 = some m.cls := findClass_of_methodNamed B.named
  have hlocks := B.notSynchronized
  subst hsz
  have hD := hD0.self (sz := s.heap.size)
  generalize hAe : va_A [(a1, .inr (17, [.int 0, .ref a2, .ref a3, .ref a4, .long 0])), (a2, .inl (T 2, 12, .inr (.inr (.inr (.inr (fun _ => none))))))] s.heap.size = A at hD hG ⊢
  have hA : ∀ q : Nat, s.heap.size ≤ q → A q := fun q h => by rw [← hAe]; exact Or.inr h
  have hS : va_S A s.heap s.heap [] := va_S.rf
  have hl := lv_entry ([.ref a1, .int p1, .int p2, .int p3]) (n := 4) (Nat.le_of_ble_eq_true rfl)
  rw [lg_entry_eq]
  generalize (lg_sl ([.ref a1, .int p1, .int p2, .int p3]) ++ List.replicate (4 - (lg_sl ([.ref a1, .int p1, .int p2, .int p3])).length) Slot.unset).toArray = ls at hl ⊢
  have hl : lv_has ls 4 [(0, .ref a1), (1, .int p1), (2, .int p2), (3, .int p3)] := hl
  refine lv_aload_n hx hb dX12_sees_0 rfl (lv_at hl 0 rfl) ?_
  refine lv_iload_n hx hb dX12_sees_1 rfl (lv_at hl 3 rfl) ?_
  have hPc := hP.sub (ws' := [(a1, .inr (17, [.int 0, .ref a2, .ref a3, .ref a4, .long 0])), (a2, .inl (T 2, 12, .inr (.inr (.inr (.inr (fun _ => none))))))]) [0, 1] rfl
  have hDc := hD.sub (ws' := [(a1, .inr (17, [.int 0, .ref a2, .ref a3, .ref a4, .long 0])), (a2, .inl (T 2, 12, .inr (.inr (.inr (.inr (fun _ => none))))))]) [0, 1] (by decide) rfl
  have hFc := va_free (wc := [(a1, .inr (17, [.int 0, .ref a2, .ref a3, .ref a4, .long 0])), (a2, .inl (T 2, 12, .inr (.inr (.inr (.inr (fun _ => none))))))]) hD hS hA [0, 1] rfl
  refine va_calli (va_runV (As := [.int p3]) (rest := []) ⟨hx, hb, hml, hown, hts⟩ (xcX12_isNoPoint l hst dC dI T a1 a2 a3 a4 s.heap.size p3) (cwV 1 hts gX12_sees_X12_isNoPoint rfl rfl rfl (by decide +kernel) ⟨Nat.le_of_ble_eq_true rfl, Nat.le_of_ble_eq_true rfl⟩) ⟨xBlind, va_recv hK hPc (ci := 17) (q0 := 0) rfl rfl, xCall hK hG hS hPc hDc hFc⟩ rfl rfl hl.1 rfl (lv_room (Nat.le_of_ble_eq_true rfl)) dX12_sees_2 ⟨Nat.le_of_ble_eq_true rfl, Nat.le_of_ble_eq_true rfl⟩) hS (fun q _ h => hFc q h) hFc (fun r_9 u t H locs ht hvm hw hB hz1 hk1 hS => ?_)
  subst hw
  rcases hB with ⟨hr_9, hP1, hD1⟩
  rw [ht] at hP1
  subst hr_9
  obtain ⟨hP, hD⟩ := va_join (wr := []) (w1 := [(a1, .inr (17, [.int 1, .ref a2, .ref a3, .ref a4, .long 0])), (a2, .inl (T 2, 12, .inr (.inr (.inr (.inr (fun _ => none))))))]) hP hD [0, 1] [] rfl rfl (by decide) (by decide) hk1 hFc hP1 hD1
  have hP : va_P (dC, dI) vwCl [(a1, .inr (17, [.int 1, .ref a2, .ref a3, .ref a4, .long 0])), (a2, .inl (T 2, 12, .inr (.inr (.inr (.inr (fun _ => none))))))] H := hP
  have hD : va_D A [(a1, .inr (17, [.int 1, .ref a2, .ref a3, .ref a4, .long 0])), (a2, .inl (T 2, 12, .inr (.inr (.inr (.inr (fun _ => none))))))] := hD
  clear hPc hDc hFc hP1 hD1 hk1 hz1 ht hvm
  refine lv_if_ne (tgt := 44) hx hb dX12_sees_5 (by decide) (fun c_2 => ?_) (fun c_2 => absurd c_2 (by decide))
  refine lv_iconst (v := 0) hx hb dX12_sees_44 (by decide) ?_
  have hP9 := hP.sub (ws' := [(a1, .inr (17, [.int 1, .ref a2, .ref a3, .ref a4, .long 0]))]) [0] rfl
  have hD9 := hD.sub (ws' := [(a1, .inr (17, [.int 1, .ref a2, .ref a3, .ref a4, .long 0]))]) [0] (by decide) rfl
  exact W.zret (v := 0) hx hb hr (by decide) (fun t ht hW => ⟨⟨_, _, rfl, rfl, ⟨rfl, by rw [ht]; exact hP9, hD9⟩⟩, hS.F ht⟩) hS.2.2 dX12_sees_45
set_option maxHeartbeats 4000000 in
set_option maxRecDepth 100000 in
theorem xcX12_setSpeed (l : Launch) (hst : l.stackTraces = false) (dC : Nat → ClassId) (dI : Nat → Nat → Nat) (T : Nat → ClassId) (a1 : Nat) (a2 : Nat) (a3 : Nat) (a4 : Nat) (sz : Nat) (p1 : Int32) (p2 : Int32) (p3 : Int32) : Met l yX12_setSpeed wsX12_setSpeed ({ frames := 3, cells := 0, slots := 0, locals := 67 } : Room) (va_Pc [.ref a1, .int p1, .int p2, .int p3] (fun U => xB dC dI T [(a1, .inr (17, [.int 0, .ref a2, .ref a3, .ref a4, .long 0])), (a2, .inl (T 2, 12, .inr (.inr (.inr (.inr (fun _ => none))))))] sz U)) (va_Qi (fun (r u : Int32) => r = u) (fun (u : Int32) (t : State) => 0 = u ∧ xE dC dI [(a1, .inr (17, [.int 1, .ref a2, .ref a3, .ref a4, .long 0]))] (va_A [(a1, .inr (17, [.int 0, .ref a2, .ref a3, .ref a4, .long 0])), (a2, .inl (T 2, 12, .inr (.inr (.inr (.inr (fun _ => none))))))] sz) t) (va_A [(a1, .inr (17, [.int 0, .ref a2, .ref a3, .ref a4, .long 0])), (a2, .inl (T 2, 12, .inr (.inr (.inr (.inr (fun _ => none))))))] sz)) 0 0 (va_A [(a1, .inr (17, [.int 0, .ref a2, .ref a3, .ref a4, .long 0])), (a2, .inl (T 2, 12, .inr (.inr (.inr (.inr (fun _ => none))))))] sz) := by
  refine Met.ofW (cc := cX12_setSpeed) (maxL := 5) (ret := (some .boolean)) (by decide +kernel) rfl ?_
  intro p e s m args below meth c s₁ B hml hv
  obtain ⟨rfl, hsz, hP, hK, hD0, hG⟩ := hv
  have hx := B.exec
  have hb := B.bytes
  have hr := B.returns
  have hts := atoms_spec (ws := wsX12_setSpeed) B.pre
  have hown : s.vm.findClass RX12 = some m.cls := findClass_of_methodNamed B.named
  have hlocks := B.notSynchronized
  subst hsz
  have hD := hD0.self (sz := s.heap.size)
  generalize hAe : va_A [(a1, .inr (17, [.int 0, .ref a2, .ref a3, .ref a4, .long 0])), (a2, .inl (T 2, 12, .inr (.inr (.inr (.inr (fun _ => none))))))] s.heap.size = A at hD hG ⊢
  have hA : ∀ q : Nat, s.heap.size ≤ q → A q := fun q h => by rw [← hAe]; exact Or.inr h
  have hS : va_S A s.heap s.heap [] := va_S.rf
  have hl := lv_entry ([.ref a1, .int p1, .int p2, .int p3]) (n := 5) (Nat.le_of_ble_eq_true rfl)
  rw [lg_entry_eq]
  generalize (lg_sl ([.ref a1, .int p1, .int p2, .int p3]) ++ List.replicate (5 - (lg_sl ([.ref a1, .int p1, .int p2, .int p3])).length) Slot.unset).toArray = ls at hl ⊢
  have hl : lv_has ls 5 [(0, .ref a1), (1, .int p1), (2, .int p2), (3, .int p3)] := hl
  refine lv_aload_n hx hb dX12_setSpeed_0 rfl (lv_at hl 0 rfl) ?_
  refine lv_iload_n hx hb dX12_setSpeed_1 rfl (lv_at hl 1 rfl) ?_
  have hPc := hP.sub (ws' := [(a1, .inr (17, [.int 0, .ref a2, .ref a3, .ref a4, .long 0])), (a2, .inl (T 2, 12, .inr (.inr (.inr (.inr (fun _ => none))))))]) [0, 1] rfl
  have hDc := hD.sub (ws' := [(a1, .inr (17, [.int 0, .ref a2, .ref a3, .ref a4, .long 0])), (a2, .inl (T 2, 12, .inr (.inr (.inr (.inr (fun _ => none))))))]) [0, 1] (by decide) rfl
  have hFc := va_free (wc := [(a1, .inr (17, [.int 0, .ref a2, .ref a3, .ref a4, .long 0])), (a2, .inl (T 2, 12, .inr (.inr (.inr (.inr (fun _ => none))))))]) hD hS hA [0, 1] rfl
  refine va_calli (va_runV (As := [.int p1]) (rest := []) ⟨hx, hb, hml, hown, hts⟩ (xcX12_isNoPoint l hst dC dI T a1 a2 a3 a4 s.heap.size p1) (cwV 1 hts gX12_setSpeed_X12_isNoPoint rfl rfl rfl (by decide +kernel) ⟨Nat.le_of_ble_eq_true rfl, Nat.le_of_ble_eq_true rfl⟩) ⟨xBlind, va_recv hK hPc (ci := 17) (q0 := 0) rfl rfl, xCall hK hG hS hPc hDc hFc⟩ rfl rfl hl.1 rfl (lv_room (Nat.le_of_ble_eq_true rfl)) dX12_setSpeed_2 ⟨Nat.le_of_ble_eq_true rfl, Nat.le_of_ble_eq_true rfl⟩) hS (fun q _ h => hFc q h) hFc (fun r_9 u t H locs ht hvm hw hB hz1 hk1 hS => ?_)
  subst hw
  rcases hB with ⟨hr_9, hP1, hD1⟩
  rw [ht] at hP1
  subst hr_9
  obtain ⟨hP, hD⟩ := va_join (wr := []) (w1 := [(a1, .inr (17, [.int 1, .ref a2, .ref a3, .ref a4, .long 0])), (a2, .inl (T 2, 12, .inr (.inr (.inr (.inr (fun _ => none))))))]) hP hD [0, 1] [] rfl rfl (by decide) (by decide) hk1 hFc hP1 hD1
  have hP : va_P (dC, dI) vwCl [(a1, .inr (17, [.int 1, .ref a2, .ref a3, .ref a4, .long 0])), (a2, .inl (T 2, 12, .inr (.inr (.inr (.inr (fun _ => none))))))] H := hP
  have hD : va_D A [(a1, .inr (17, [.int 1, .ref a2, .ref a3, .ref a4, .long 0])), (a2, .inl (T 2, 12, .inr (.inr (.inr (.inr (fun _ => none))))))] := hD
  clear hPc hDc hFc hP1 hD1 hk1 hz1 ht hvm
  refine lv_if_ne (tgt := 30) hx hb dX12_setSpeed_5 (by decide) (fun c_2 => ?_) (fun c_2 => absurd c_2 (by decide))
  refine lv_iconst (v := 0) hx hb dX12_setSpeed_30 (by decide) ?_
  have hP9 := hP.sub (ws' := [(a1, .inr (17, [.int 1, .ref a2, .ref a3, .ref a4, .long 0]))]) [0] rfl
  have hD9 := hD.sub (ws' := [(a1, .inr (17, [.int 1, .ref a2, .ref a3, .ref a4, .long 0]))]) [0] (by decide) rfl
  exact W.zret (v := 0) hx hb hr (by decide) (fun t ht hW => ⟨⟨_, _, rfl, rfl, ⟨rfl, by rw [ht]; exact hP9, hD9⟩⟩, hS.F ht⟩) hS.2.2 dX12_setSpeed_31
set_option maxHeartbeats 4000000 in
set_option maxRecDepth 100000 in
theorem xcX12_setWeight (l : Launch) (hst : l.stackTraces = false) (dC : Nat → ClassId) (dI : Nat → Nat → Nat) (T : Nat → ClassId) (a1 : Nat) (a2 : Nat) (a3 : Nat) (a4 : Nat) (sz : Nat) (p1 : Int32) (p2 : Int32) : Met l yX12_setWeight wsX12_setWeight ({ frames := 3, cells := 0, slots := 0, locals := 67 } : Room) (va_Pc [.ref a1, .int p1, .int p2] (fun U => xB dC dI T [(a1, .inr (17, [.int 0, .ref a2, .ref a3, .ref a4, .long 0])), (a2, .inl (T 2, 12, .inr (.inr (.inr (.inr (fun _ => none))))))] sz U)) (va_Qi (fun (r u : Int32) => r = u) (fun (u : Int32) (t : State) => 0 = u ∧ xE dC dI [(a1, .inr (17, [.int 1, .ref a2, .ref a3, .ref a4, .long 0]))] (va_A [(a1, .inr (17, [.int 0, .ref a2, .ref a3, .ref a4, .long 0])), (a2, .inl (T 2, 12, .inr (.inr (.inr (.inr (fun _ => none))))))] sz) t) (va_A [(a1, .inr (17, [.int 0, .ref a2, .ref a3, .ref a4, .long 0])), (a2, .inl (T 2, 12, .inr (.inr (.inr (.inr (fun _ => none))))))] sz)) 0 0 (va_A [(a1, .inr (17, [.int 0, .ref a2, .ref a3, .ref a4, .long 0])), (a2, .inl (T 2, 12, .inr (.inr (.inr (.inr (fun _ => none))))))] sz) := by
  refine Met.ofW (cc := cX12_setWeight) (maxL := 4) (ret := (some .int)) (by decide +kernel) rfl ?_
  intro p e s m args below meth c s₁ B hml hv
  obtain ⟨rfl, hsz, hP, hK, hD0, hG⟩ := hv
  have hx := B.exec
  have hb := B.bytes
  have hr := B.returns
  have hts := atoms_spec (ws := wsX12_setWeight) B.pre
  have hown : s.vm.findClass RX12 = some m.cls := findClass_of_methodNamed B.named
  have hlocks := B.notSynchronized
  subst hsz
  have hD := hD0.self (sz := s.heap.size)
  generalize hAe : va_A [(a1, .inr (17, [.int 0, .ref a2, .ref a3, .ref a4, .long 0])), (a2, .inl (T 2, 12, .inr (.inr (.inr (.inr (fun _ => none))))))] s.heap.size = A at hD hG ⊢
  have hA : ∀ q : Nat, s.heap.size ≤ q → A q := fun q h => by rw [← hAe]; exact Or.inr h
  have hS : va_S A s.heap s.heap [] := va_S.rf
  have hl := lv_entry ([.ref a1, .int p1, .int p2]) (n := 4) (Nat.le_of_ble_eq_true rfl)
  rw [lg_entry_eq]
  generalize (lg_sl ([.ref a1, .int p1, .int p2]) ++ List.replicate (4 - (lg_sl ([.ref a1, .int p1, .int p2])).length) Slot.unset).toArray = ls at hl ⊢
  have hl : lv_has ls 4 [(0, .ref a1), (1, .int p1), (2, .int p2)] := hl
  refine lv_aload_n hx hb dX12_setWeight_0 rfl (lv_at hl 0 rfl) ?_
  refine lv_iload_n hx hb dX12_setWeight_1 rfl (lv_at hl 1 rfl) ?_
  have hPc := hP.sub (ws' := [(a1, .inr (17, [.int 0, .ref a2, .ref a3, .ref a4, .long 0])), (a2, .inl (T 2, 12, .inr (.inr (.inr (.inr (fun _ => none))))))]) [0, 1] rfl
  have hDc := hD.sub (ws' := [(a1, .inr (17, [.int 0, .ref a2, .ref a3, .ref a4, .long 0])), (a2, .inl (T 2, 12, .inr (.inr (.inr (.inr (fun _ => none))))))]) [0, 1] (by decide) rfl
  have hFc := va_free (wc := [(a1, .inr (17, [.int 0, .ref a2, .ref a3, .ref a4, .long 0])), (a2, .inl (T 2, 12, .inr (.inr (.inr (.inr (fun _ => none))))))]) hD hS hA [0, 1] rfl
  refine va_calli (va_runV (As := [.int p1]) (rest := []) ⟨hx, hb, hml, hown, hts⟩ (xcX12_isNoPoint l hst dC dI T a1 a2 a3 a4 s.heap.size p1) (cwV 1 hts gX12_setWeight_X12_isNoPoint rfl rfl rfl (by decide +kernel) ⟨Nat.le_of_ble_eq_true rfl, Nat.le_of_ble_eq_true rfl⟩) ⟨xBlind, va_recv hK hPc (ci := 17) (q0 := 0) rfl rfl, xCall hK hG hS hPc hDc hFc⟩ rfl rfl hl.1 rfl (lv_room (Nat.le_of_ble_eq_true rfl)) dX12_setWeight_2 ⟨Nat.le_of_ble_eq_true rfl, Nat.le_of_ble_eq_true rfl⟩) hS (fun q _ h => hFc q h) hFc (fun r_9 u t H locs ht hvm hw hB hz1 hk1 hS => ?_)
  subst hw
  rcases hB with ⟨hr_9, hP1, hD1⟩
  rw [ht] at hP1
  subst hr_9
  obtain ⟨hP, hD⟩ := va_join (wr := []) (w1 := [(a1, .inr (17, [.int 1, .ref a2, .ref a3, .ref a4, .long 0])), (a2, .inl (T 2, 12, .inr (.inr (.inr (.inr (fun _ => none))))))]) hP hD [0, 1] [] rfl rfl (by decide) (by decide) hk1 hFc hP1 hD1
  have hP : va_P (dC, dI) vwCl [(a1, .inr (17, [.int 1, .ref a2, .ref a3, .ref a4, .long 0])), (a2, .inl (T 2, 12, .inr (.inr (.inr (.inr (fun _ => none))))))] H := hP
  have hD : va_D A [(a1, .inr (17, [.int 1, .ref a2, .ref a3, .ref a4, .long 0])), (a2, .inl (T 2, 12, .inr (.inr (.inr (.inr (fun _ => none))))))] := hD
  clear hPc hDc hFc hP1 hD1 hk1 hz1 ht hvm
  refine lv_if_ne (tgt := 32) hx hb dX12_setWeight_5 (by decide) (fun c_2 => ?_) (fun c_2 => absurd c_2 (by decide))
  refine lv_iconst (v := 0) hx hb dX12_setWeight_32 (by decide) ?_
  have hP9 := hP.sub (ws' := [(a1, .inr (17, [.int 1, .ref a2, .ref a3, .ref a4, .long 0]))]) [0] rfl
  have hD9 := hD.sub (ws' := [(a1, .inr (17, [.int 1, .ref a2, .ref a3, .ref a4, .long 0]))]) [0] (by decide) rfl
  exact W.iret (v := 0) hx hb hr (fun t ht hW => ⟨⟨_, _, rfl, rfl, ⟨rfl, by rw [ht]; exact hP9, hD9⟩⟩, hS.F ht⟩) hS.2.2 dX12_setWeight_33
set_option maxHeartbeats 4000000 in
set_option maxRecDepth 100000 in
theorem xcX12_steps (l : Launch) (hst : l.stackTraces = false) (dC : Nat → ClassId) (dI : Nat → Nat → Nat) (T : Nat → ClassId) (a1 : Nat) (a2 : Nat) (a3 : Nat) (a4 : Nat) (sz : Nat) (p1 : Int32) (p2 : Int32) : Met l yX12_steps wsX12_steps ({ frames := 3, cells := 0, slots := 0, locals := 68 } : Room) (va_Pc [.ref a1, .int p1, .int p2] (fun U => xB dC dI T [(a1, .inr (17, [.int 0, .ref a2, .ref a3, .ref a4, .long 0])), (a2, .inl (T 2, 12, .inr (.inr (.inr (.inr (fun _ => none))))))] sz U)) (va_Qi (fun (r u : Int32) => r = u) (fun (u : Int32) (t : State) => 0 = u ∧ xE dC dI [(a1, .inr (17, [.int 1, .ref a2, .ref a3, .ref a4, .long 0]))] (va_A [(a1, .inr (17, [.int 0, .ref a2, .ref a3, .ref a4, .long 0])), (a2, .inl (T 2, 12, .inr (.inr (.inr (.inr (fun _ => none))))))] sz) t) (va_A [(a1, .inr (17, [.int 0, .ref a2, .ref a3, .ref a4, .long 0])), (a2, .inl (T 2, 12, .inr (.inr (.inr (.inr (fun _ => none))))))] sz)) 0 0 (va_A [(a1, .inr (17, [.int 0, .ref a2, .ref a3, .ref a4, .long 0])), (a2, .inl (T 2, 12, .inr (.inr (.inr (.inr (fun _ => none))))))] sz) := by
  refine Met.ofW (cc := cX12_steps) (maxL := 9) (ret := (some .int)) (by decide +kernel) rfl ?_
  intro p e s m args below meth c s₁ B hml hv
  obtain ⟨rfl, hsz, hP, hK, hD0, hG⟩ := hv
  have hx := B.exec
  have hb := B.bytes
  have hr := B.returns
  have hts := atoms_spec (ws := wsX12_steps) B.pre
  have hown : s.vm.findClass RX12 = some m.cls := findClass_of_methodNamed B.named
  have hlocks := B.notSynchronized
  subst hsz
  have hD := hD0.self (sz := s.heap.size)
  generalize hAe : va_A [(a1, .inr (17, [.int 0, .ref a2, .ref a3, .ref a4, .long 0])), (a2, .inl (T 2, 12, .inr (.inr (.inr (.inr (fun _ => none))))))] s.heap.size = A at hD hG ⊢
  have hA : ∀ q : Nat, s.heap.size ≤ q → A q := fun q h => by rw [← hAe]; exact Or.inr h
  have hS : va_S A s.heap s.heap [] := va_S.rf
  have hl := lv_entry ([.ref a1, .int p1, .int p2]) (n := 9) (Nat.le_of_ble_eq_true rfl)
  rw [lg_entry_eq]
  generalize (lg_sl ([.ref a1, .int p1, .int p2]) ++ List.replicate (9 - (lg_sl ([.ref a1, .int p1, .int p2])).length) Slot.unset).toArray = ls at hl ⊢
  have hl : lv_has ls 9 [(0, .ref a1), (1, .int p1), (2, .int p2)] := hl
  refine lv_aload_n hx hb dX12_steps_0 rfl (lv_at hl 0 rfl) ?_
  refine lv_iload_n hx hb dX12_steps_1 rfl (lv_at hl 1 rfl) ?_
  refine lv_iload_n hx hb dX12_steps_2 rfl (lv_at hl 2 rfl) ?_
  have hPc := hP.sub (ws' := [(a1, .inr (17, [.int 0, .ref a2, .ref a3, .ref a4, .long 0])), (a2, .inl (T 2, 12, .inr (.inr (.inr (.inr (fun _ => none))))))]) [0, 1] rfl
  have hDc := hD.sub (ws' := [(a1, .inr (17, [.int 0, .ref a2, .ref a3, .ref a4, .long 0])), (a2, .inl (T 2, 12, .inr (.inr (.inr (.inr (fun _ => none))))))]) [0, 1] (by decide) rfl
  have hFc := va_free (wc := [(a1, .inr (17, [.int 0, .ref a2, .ref a3, .ref a4, .long 0])), (a2, .inl (T 2, 12, .inr (.inr (.inr (.inr (fun _ => none))))))]) hD hS hA [0, 1] rfl
  refine va_calli (va_runV (As := [.int p1, .int p2]) (rest := []) ⟨hx, hb, hml, hown, hts⟩ (xcX12_areTwo l hst dC dI T a1 a2 a3 a4 s.heap.size p1 p2) (cwV 2 hts gX12_steps_X12_areTwo rfl rfl rfl (by decide +kernel) ⟨Nat.le_of_ble_eq_true rfl, Nat.le_of_ble_eq_true rfl⟩) ⟨xBlind, va_recv hK hPc (ci := 17) (q0 := 0) rfl rfl, xCall hK hG hS hPc hDc hFc⟩ rfl rfl hl.1 rfl (lv_room (Nat.le_of_ble_eq_true rfl)) dX12_steps_3 ⟨Nat.le_of_ble_eq_true rfl, Nat.le_of_ble_eq_true rfl⟩) hS (fun q _ h => hFc q h) hFc (fun r_9 u t H locs ht hvm hw hB hz1 hk1 hS => ?_)
  subst hw
  rcases hB with ⟨hr_9, hP1, hD1⟩
  rw [ht] at hP1
  subst hr_9
  obtain ⟨hP, hD⟩ := va_join (wr := []) (w1 := [(a1, .inr (17, [.int 1, .ref a2, .ref a3, .ref a4, .long 0])), (a2, .inl (T 2, 12, .inr (.inr (.inr (.inr (fun _ => none))))))]) hP hD [0, 1] [] rfl rfl (by decide) (by decide) hk1 hFc hP1 hD1
  have hP : va_P (dC, dI) vwCl [(a1, .inr (17, [.int 1, .ref a2, .ref a3, .ref a4, .long 0])), (a2, .inl (T 2, 12, .inr (.inr (.inr (.inr (fun _ => none))))))] H := hP
  have hD : va_D A [(a1, .inr (17, [.int 1, .ref a2, .ref a3, .ref a4, .long 0])), (a2, .inl (T 2, 12, .inr (.inr (.inr (.inr (fun _ => none))))))] := hD
  clear hPc hDc hFc hP1 hD1 hk1 hz1 ht hvm
  refine lv_if_ne (tgt := 11) hx hb dX12_steps_6 (by decide) (fun c_2 => absurd c_2 (by decide)) (fun c_2 => ?_)
  refine lv_iconst (v := 0) hx hb dX12_steps_9 (by decide) ?_
  have hP9 := hP.sub (ws' := [(a1, .inr (17, [.int 1, .ref a2, .ref a3, .ref a4, .long 0]))]) [0] rfl
  have hD9 := hD.sub (ws' := [(a1, .inr (17, [.int 1, .ref a2, .ref a3, .ref a4, .long 0]))]) [0] (by decide) rfl
  exact W.iret (v := 0) hx hb hr (fun t ht hW => ⟨⟨_, _, rfl, rfl, ⟨rfl, by rw [ht]; exact hP9, hD9⟩⟩, hS.F ht⟩) hS.2.2 dX12_steps_10
set_option maxHeartbeats 4000000 in
set_option maxRecDepth 100000 in
theorem xcX12_thrown (l : Launch) (hst : l.stackTraces = false) (dC : Nat → ClassId) (dI : Nat → Nat → Nat) (T : Nat → ClassId) (a1 : Nat) (a2 : Nat) (a3 : Nat) (a4 : Nat) (sz : Nat) : Met l yX12_thrown wsX12_thrown ({ frames := 0, cells := 0, slots := 0, locals := 0 } : Room) (va_Pc [.ref a1] (fun U => xB dC dI T [(a1, .inr (17, [.int 0, .ref a2, .ref a3, .ref a4, .long 0]))] sz U)) (va_Qi (fun (r u : Int32) => r = u) (fun (u : Int32) (t : State) => 0 = u ∧ xE dC dI [(a1, .inr (17, [.int 0, .ref a2, .ref a3, .ref a4, .long 0]))] (va_A [(a1, .inr (17, [.int 0, .ref a2, .ref a3, .ref a4, .long 0]))] sz) t) (va_A [(a1, .inr (17, [.int 0, .ref a2, .ref a3, .ref a4, .long 0]))] sz)) 0 0 (va_A [(a1, .inr (17, [.int 0, .ref a2, .ref a3, .ref a4, .long 0]))] sz) := by
  refine Met.ofW (cc := cX12_thrown) (maxL := 1) (ret := (some .int)) (by decide +kernel) rfl ?_
  intro p e s m args below meth c s₁ B hml hv
  obtain ⟨rfl, hsz, hP, hK, hD0, hG⟩ := hv
  have hx := B.exec
  have hb := B.bytes
  have hr := B.returns
  have hts := atoms_spec (ws := wsX12_thrown) B.pre
  have hown : s.vm.findClass RX12 = some m.cls := findClass_of_methodNamed B.named
  have hlocks := B.notSynchronized
  have hin_X12 : ∀ w ∈ wsX120, w ∈ wsX12_thrown := by decide +kernel
  subst hsz
  have hD := hD0.self (sz := s.heap.size)
  generalize hAe : va_A [(a1, .inr (17, [.int 0, .ref a2, .ref a3, .ref a4, .long 0]))] s.heap.size = A at hD hG ⊢
  have hA : ∀ q : Nat, s.heap.size ≤ q → A q := fun q h => by rw [← hAe]; exact Or.inr h
  have hS : va_S A s.heap s.heap [] := va_S.rf
  have hl := lv_entry ([.ref a1]) (n := 1) (Nat.le_of_ble_eq_true rfl)
  rw [lg_entry_eq]
  generalize (lg_sl ([.ref a1]) ++ List.replicate (1 - (lg_sl ([.ref a1])).length) Slot.unset).toArray = ls at hl ⊢
  have hl : lv_has ls 1 [(0, .ref a1)] := hl
  refine lv_aload_n hx hb dX12_thrown_0 rfl (lv_at hl 0 rfl) ?_
  refine va_get (D := (dC, dI)) (ci := 17) (v := .int 0) (C := RX12) (T := TX12) (N := 5) hx hb hts hin_X12 hown hK hP 0 rfl rfl 0 (by decide) (hts (.fieldLink RX12 25 "NearestwardModel" "thrown" "I") (by decide +kernel)) (fun _ h9 => h9) rfl dX12_thrown_1 ?_
  have hP9 := hP.sub (ws' := [(a1, .inr (17, [.int 0, .ref a2, .ref a3, .ref a4, .long 0]))]) [0] rfl
  have hD9 := hD.sub (ws' := [(a1, .inr (17, [.int 0, .ref a2, .ref a3, .ref a4, .long 0]))]) [0] (by decide) rfl
  exact W.iret (v := 0) hx hb hr (fun t ht hW => ⟨⟨_, _, rfl, rfl, ⟨rfl, by rw [ht]; exact hP9, hD9⟩⟩, hS.F ht⟩) hS.2.2 dX12_thrown_4
set_option maxHeartbeats 4000000 in
set_option maxRecDepth 100000 in
theorem xcX12_treeSum (l : Launch) (hst : l.stackTraces = false) (dC : Nat → ClassId) (dI : Nat → Nat → Nat) (T : Nat → ClassId) (a1 : Nat) (a2 : Nat) (a3 : Nat) (a4 : Nat) (sz : Nat) : Met l yX12_treeSum wsX12_treeSum ({ frames := 2, cells := 14, slots := 168, locals := 52 } : Room) (va_Pc [.ref a1] (fun U => xB dC dI T [(a1, .inr (17, [.int 0, .ref a2, .ref a3, .ref a4, .long 0])), (a2, .inl (T 2, 12, .inr (.inr (.inr (.inr (fun _ => none))))))] sz U)) (va_Qi (fun (r u : Int32) => r = u) (fun (u : Int32) (t : State) => 0 = u ∧ xE dC dI [(a1, .inr (17, [.int 0, .ref a2, .ref a3, .ref a4, .long 0]))] (va_A [(a1, .inr (17, [.int 0, .ref a2, .ref a3, .ref a4, .long 0])), (a2, .inl (T 2, 12, .inr (.inr (.inr (.inr (fun _ => none))))))] sz) t) (va_A [(a1, .inr (17, [.int 0, .ref a2, .ref a3, .ref a4, .long 0])), (a2, .inl (T 2, 12, .inr (.inr (.inr (.inr (fun _ => none))))))] sz)) 14 168 (va_A [(a1, .inr (17, [.int 0, .ref a2, .ref a3, .ref a4, .long 0])), (a2, .inl (T 2, 12, .inr (.inr (.inr (.inr (fun _ => none))))))] sz) := by
  refine Met.ofW (cc := cX12_treeSum) (maxL := 6) (ret := (some .int)) (by decide +kernel) rfl ?_
  intro p e s m args below meth c s₁ B hml hv
  obtain ⟨rfl, hsz, hP, hK, hD0, hG⟩ := hv
  have hx := B.exec
  have hb := B.bytes
  have hr := B.returns
  have hts := atoms_spec (ws := wsX12_treeSum) B.pre
  have hown : s.vm.findClass RX12 = some m.cls := findClass_of_methodNamed B.named
  have hlocks := B.notSynchronized
  have hin_X12 : ∀ w ∈ wsX120, w ∈ wsX12_treeSum := by decide +kernel
  subst hsz
  have hD := hD0.self (sz := s.heap.size)
  generalize hAe : va_A [(a1, .inr (17, [.int 0, .ref a2, .ref a3, .ref a4, .long 0])), (a2, .inl (T 2, 12, .inr (.inr (.inr (.inr (fun _ => none))))))] s.heap.size = A at hD hG ⊢
  have hA : ∀ q : Nat, s.heap.size ≤ q → A q := fun q h => by rw [← hAe]; exact Or.inr h
  have hS : va_S A s.heap s.heap [] := va_S.rf
  have hl := lv_entry ([.ref a1]) (n := 6) (Nat.le_of_ble_eq_true rfl)
  rw [lg_entry_eq]
  generalize (lg_sl ([.ref a1]) ++ List.replicate (6 - (lg_sl ([.ref a1])).length) Slot.unset).toArray = ls at hl ⊢
  have hl : lv_has ls 6 [(0, .ref a1)] := hl
  refine lv_aload_n hx hb dX12_treeSum_0 rfl (lv_at hl 0 rfl) ?_
  refine lv_iconst (v := 0) hx hb dX12_treeSum_1 (by decide) ?_
  refine va_put (D := (dC, dI)) (ci := 17) (v := .int 0) (ty := .int) (C := RX12) (T := TX12) (N := 5) hx hb hts hin_X12 tyX12 tyX12_ok nmX12 hown hK hP hD hS 0 rfl rfl 0 (by decide) (hts (.fieldLink RX12 25 "NearestwardModel" "thrown" "I") (by decide +kernel)) (fun _ h9 => h9) rfl (by decide +kernel) rfl rfl (Nat.le_of_ble_eq_true rfl) dX12_treeSum_2 (fun H locs hP hD hS => ?_)
  have hP : va_P (dC, dI) vwCl [(a1, .inr (17, [.int 0, .ref a2, .ref a3, .ref a4, .long 0])), (a2, .inl (T 2, 12, .inr (.inr (.inr (.inr (fun _ => none))))))] H := hP
  have hD : va_D A [(a1, .inr (17, [.int 0, .ref a2, .ref a3, .ref a4, .long 0])), (a2, .inl (T 2, 12, .inr (.inr (.inr (.inr (fun _ => none))))))] := hD
  refine lv_aload_n hx hb dX12_treeSum_5 rfl (lv_at hl 0 rfl) ?_
  have hPc := hP.sub (ws' := [(a1, .inr (17, [.int 0, .ref a2, .ref a3, .ref a4, .long 0])), (a2, .inl (T 2, 12, .inr (.inr (.inr (.inr (fun _ => none))))))]) [0, 1] rfl
  have hDc := hD.sub (ws' := [(a1, .inr (17, [.int 0, .ref a2, .ref a3, .ref a4, .long 0])), (a2, .inl (T 2, 12, .inr (.inr (.inr (.inr (fun _ => none))))))]) [0, 1] (by decide) rfl
  have hFc := va_free (wc := [(a1, .inr (17, [.int 0, .ref a2, .ref a3, .ref a4, .long 0])), (a2, .inl (T 2, 12, .inr (.inr (.inr (.inr (fun _ => none))))))]) hD hS hA [0, 1] rfl
  refine va_callr (va_runV (As := []) (rest := []) ⟨hx, hb, hml, hown, hts⟩ (xcX12_tree l hst dC dI T a1 a2 a3 a4 H.size) (cwV 0 hts gX12_treeSum_X12_tree rfl rfl rfl (by decide +kernel) ⟨Nat.le_of_ble_eq_true rfl, Nat.le_of_ble_eq_true rfl⟩) ⟨xBlind, va_recv hK hPc (ci := 17) (q0 := 0) rfl rfl, xCall hK hG hS hPc hDc hFc⟩ rfl rfl hl.1 rfl (lv_room (Nat.le_of_ble_eq_true rfl)) dX12_treeSum_6 ⟨Nat.le_of_ble_eq_true rfl, Nat.le_of_ble_eq_true rfl⟩) hS (fun q _ h => hFc q h) hFc (fun u ra t H locs ht hvm hw hB hz1 hk1 hS => ?_)
  rcases hB with ⟨q_1, r_2, hr_9, hP1, hD1⟩
  rw [ht] at hP1
  subst hr_9
  obtain ⟨hP, hD⟩ := va_join (wr := []) (w1 := [(a1, .inr (17, [.int 0, .ref a2, .ref a3, .ref a4, .long 0])), (a2, .inl (T 2, 12, .inr (.inr (.inr (.inr (fun _ => none)))))), (q_1, .inl (T 3, 12, .inr (.inr (.inr (.inr (fun i => if i < 12 then some (r_2 i) else none)))))), ((r_2 0), .inl (T 1, 12, .inl (fun _ => 0))), ((r_2 1), .inl (T 1, 12, .inl (fun _ => 0))), ((r_2 2), .inl (T 1, 12, .inl (fun _ => 0))), ((r_2 3), .inl (T 1, 12, .inl (fun _ => 0))), ((r_2 4), .inl (T 1, 12, .inl (fun _ => 0))), ((r_2 5), .inl (T 1, 12, .inl (fun _ => 0))), ((r_2 6), .inl (T 1, 12, .inl (fun _ => 0))), ((r_2 7), .inl (T 1, 12, .inl (fun _ => 0))), ((r_2 8), .inl (T 1, 12, .inl (fun _ => 0))), ((r_2 9), .inl (T 1, 12, .inl (fun _ => 0))), ((r_2 10), .inl (T 1, 12, .inl (fun _ => 0))), ((r_2 11), .inl (T 1, 12, .inl (fun _ => 0)))]) hP hD [0, 1] [] rfl rfl (by decide) (by decide) hk1 hFc hP1 hD1
  have hP : va_P (dC, dI) vwCl [(a1, .inr (17, [.int 0, .ref a2, .ref a3, .ref a4, .long 0])), (a2, .inl (T 2, 12, .inr (.inr (.inr (.inr (fun _ => none)))))), (q_1, .inl (T 3, 12, .inr (.inr (.inr (.inr (fun i => if i < 12 then some (r_2 i) else none)))))), ((r_2 0), .inl (T 1, 12, .inl (fun _ => 0))), ((r_2 1), .inl (T 1, 12, .inl (fun _ => 0))), ((r_2 2), .inl (T 1, 12, .inl (fun _ => 0))), ((r_2 3), .inl (T 1, 12, .inl (fun _ => 0))), ((r_2 4), .inl (T 1, 12, .inl (fun _ => 0))), ((r_2 5), .inl (T 1, 12, .inl (fun _ => 0))), ((r_2 6), .inl (T 1, 12, .inl (fun _ => 0))), ((r_2 7), .inl (T 1, 12, .inl (fun _ => 0))), ((r_2 8), .inl (T 1, 12, .inl (fun _ => 0))), ((r_2 9), .inl (T 1, 12, .inl (fun _ => 0))), ((r_2 10), .inl (T 1, 12, .inl (fun _ => 0))), ((r_2 11), .inl (T 1, 12, .inl (fun _ => 0)))] H := hP
  have hD : va_D A [(a1, .inr (17, [.int 0, .ref a2, .ref a3, .ref a4, .long 0])), (a2, .inl (T 2, 12, .inr (.inr (.inr (.inr (fun _ => none)))))), (q_1, .inl (T 3, 12, .inr (.inr (.inr (.inr (fun i => if i < 12 then some (r_2 i) else none)))))), ((r_2 0), .inl (T 1, 12, .inl (fun _ => 0))), ((r_2 1), .inl (T 1, 12, .inl (fun _ => 0))), ((r_2 2), .inl (T 1, 12, .inl (fun _ => 0))), ((r_2 3), .inl (T 1, 12, .inl (fun _ => 0))), ((r_2 4), .inl (T 1, 12, .inl (fun _ => 0))), ((r_2 5), .inl (T 1, 12, .inl (fun _ => 0))), ((r_2 6), .inl (T 1, 12, .inl (fun _ => 0))), ((r_2 7), .inl (T 1, 12, .inl (fun _ => 0))), ((r_2 8), .inl (T 1, 12, .inl (fun _ => 0))), ((r_2 9), .inl (T 1, 12, .inl (fun _ => 0))), ((r_2 10), .inl (T 1, 12, .inl (fun _ => 0))), ((r_2 11), .inl (T 1, 12, .inl (fun _ => 0)))] := hD
  clear hPc hDc hFc hP1 hD1 hk1 hz1 ht hvm
  refine lv_astore_n (lv' := [(1, .ref q_1), (0, .ref a1)]) hx hb dX12_treeSum_9 rfl hl (by decide) rfl (fun ls hl => ?_)
  refine lv_lconst (v := 0) hx hb dX12_treeSum_10 (by decide) ?_
  refine lv_lstore_n (lv' := [(2, .long 0), (1, .ref q_1), (0, .ref a1)]) hx hb dX12_treeSum_11 rfl hl (by decide) rfl (fun ls hl => ?_)
  refine lv_iconst (v := 0) hx hb dX12_treeSum_12 (by decide) ?_
  refine lv_istore (lv' := [(4, .int 0), (2, .long 0), (1, .ref q_1), (0, .ref a1)]) hx hb dX12_treeSum_13 hl (by decide) rfl (fun ls hl => ?_)
  refine xLoop (P := fun i_k_4 H locs ls => va_P (dC, dI) vwCl [(a1, .inr (17, [.int 0, .ref a2, .ref a3, .ref a4, .long 0])), (a2, .inl (T 2, 12, .inr (.inr (.inr (.inr (fun _ => none)))))), (q_1, .inl (T 3, 12, .inr (.inr (.inr (.inr (fun i => if i < 12 then some (r_2 i) else none)))))), ((r_2 0), .inl (T 1, 12, .inl (fun _ => 0))), ((r_2 1), .inl (T 1, 12, .inl (fun _ => 0))), ((r_2 2), .inl (T 1, 12, .inl (fun _ => 0))), ((r_2 3), .inl (T 1, 12, .inl (fun _ => 0))), ((r_2 4), .inl (T 1, 12, .inl (fun _ => 0))), ((r_2 5), .inl (T 1, 12, .inl (fun _ => 0))), ((r_2 6), .inl (T 1, 12, .inl (fun _ => 0))), ((r_2 7), .inl (T 1, 12, .inl (fun _ => 0))), ((r_2 8), .inl (T 1, 12, .inl (fun _ => 0))), ((r_2 9), .inl (T 1, 12, .inl (fun _ => 0))), ((r_2 10), .inl (T 1, 12, .inl (fun _ => 0))), ((r_2 11), .inl (T 1, 12, .inl (fun _ => 0)))] H ∧ va_D A [(a1, .inr (17, [.int 0, .ref a2, .ref a3, .ref a4, .long 0])), (a2, .inl (T 2, 12, .inr (.inr (.inr (.inr (fun _ => none)))))), (q_1, .inl (T 3, 12, .inr (.inr (.inr (.inr (fun i => if i < 12 then some (r_2 i) else none)))))), ((r_2 0), .inl (T 1, 12, .inl (fun _ => 0))), ((r_2 1), .inl (T 1, 12, .inl (fun _ => 0))), ((r_2 2), .inl (T 1, 12, .inl (fun _ => 0))), ((r_2 3), .inl (T 1, 12, .inl (fun _ => 0))), ((r_2 4), .inl (T 1, 12, .inl (fun _ => 0))), ((r_2 5), .inl (T 1, 12, .inl (fun _ => 0))), ((r_2 6), .inl (T 1, 12, .inl (fun _ => 0))), ((r_2 7), .inl (T 1, 12, .inl (fun _ => 0))), ((r_2 8), .inl (T 1, 12, .inl (fun _ => 0))), ((r_2 9), .inl (T 1, 12, .inl (fun _ => 0))), ((r_2 10), .inl (T 1, 12, .inl (fun _ => 0))), ((r_2 11), .inl (T 1, 12, .inl (fun _ => 0)))] ∧ va_S A s.heap H locs ∧ lv_has ls 6 [(4, .int (nI i_k_4)), (2, .long 0), (1, .ref q_1), (0, .ref a1)]) (N := 12) (fun i_k_4 H locs ls hi_k_4 hI ih_k_4 => ?_) (0) _ _ _ (by omega) ⟨hP, hD, hS, lv_sub hl [0, 1, 2, 3] rfl⟩
  obtain ⟨hP, hD, hS, hl⟩ := hI
  refine lv_iload hx hb dX12_treeSum_15 (lv_at hl 0 rfl) ?_
  refine lv_bipush (v := 12) hx hb dX12_treeSum_17 (by decide) ?_
  have hz_6 : (nI i_k_4).toInt = ((i_k_4 : Nat) : Int) := nI_toInt (by omega)
  refine lv_icmp_ge (tgt := 72) hx hb dX12_treeSum_19 (by decide) (fun c_5 => ?_) (fun c_5 => ?_)
  · have nc_5 : 12 ≤ (nI i_k_4).toInt := (xi_le (by decide +kernel) rfl).mp c_5
    refine lv_lload_n hx hb dX12_treeSum_72 rfl (lv_at hl 1 rfl) ?_
    refine lv_l2i (v := 0) hx hb dX12_treeSum_73 (by decide) ?_
    have hP9 := hP.sub (ws' := [(a1, .inr (17, [.int 0, .ref a2, .ref a3, .ref a4, .long 0]))]) [0] rfl
    have hD9 := hD.sub (ws' := [(a1, .inr (17, [.int 0, .ref a2, .ref a3, .ref a4, .long 0]))]) [0] (by decide) rfl
    exact W.iret (v := 0) hx hb hr (fun t ht hW => ⟨⟨_, _, rfl, rfl, ⟨rfl, by rw [ht]; exact hP9, hD9⟩⟩, hS.F ht⟩) hS.2.2 dX12_treeSum_74
  · have nc_5 : ¬ (12 ≤ (nI i_k_4).toInt) := mt (xi_le (by decide +kernel) rfl).mpr c_5
    refine lv_iload hx hb dX12_treeSum_22 (lv_at hl 0 rfl) ?_
    refine lv_iconst (v := 1) hx hb dX12_treeSum_24 (by decide) ?_
    refine lv_iadd hx hb dX12_treeSum_25 ?_
    refine lv_topi (fun f_7 ef_7 => ?_)
    obtain rfl : f_7 = (nI (i_k_4 + 1)) := ef_7.trans (nI_add _ _)
    refine lv_istore (lv' := [(5, .int (nI (i_k_4 + 1))), (4, .int (nI i_k_4)), (2, .long 0), (1, .ref q_1), (0, .ref a1)]) hx hb dX12_treeSum_26 hl (by decide) rfl (fun ls hl => ?_)
    refine xLoop (P := fun i_k_8 H locs ls => va_P (dC, dI) vwCl [(a1, .inr (17, [.int 0, .ref a2, .ref a3, .ref a4, .long 0])), (a2, .inl (T 2, 12, .inr (.inr (.inr (.inr (fun _ => none)))))), (q_1, .inl (T 3, 12, .inr (.inr (.inr (.inr (fun i => if i < 12 then some (r_2 i) else none)))))), ((r_2 0), .inl (T 1, 12, .inl (fun _ => 0))), ((r_2 1), .inl (T 1, 12, .inl (fun _ => 0))), ((r_2 2), .inl (T 1, 12, .inl (fun _ => 0))), ((r_2 3), .inl (T 1, 12, .inl (fun _ => 0))), ((r_2 4), .inl (T 1, 12, .inl (fun _ => 0))), ((r_2 5), .inl (T 1, 12, .inl (fun _ => 0))), ((r_2 6), .inl (T 1, 12, .inl (fun _ => 0))), ((r_2 7), .inl (T 1, 12, .inl (fun _ => 0))), ((r_2 8), .inl (T 1, 12, .inl (fun _ => 0))), ((r_2 9), .inl (T 1, 12, .inl (fun _ => 0))), ((r_2 10), .inl (T 1, 12, .inl (fun _ => 0))), ((r_2 11), .inl (T 1, 12, .inl (fun _ => 0)))] H ∧ va_D A [(a1, .inr (17, [.int 0, .ref a2, .ref a3, .ref a4, .long 0])), (a2, .inl (T 2, 12, .inr (.inr (.inr (.inr (fun _ => none)))))), (q_1, .inl (T 3, 12, .inr (.inr (.inr (.inr (fun i => if i < 12 then some (r_2 i) else none)))))), ((r_2 0), .inl (T 1, 12, .inl (fun _ => 0))), ((r_2 1), .inl (T 1, 12, .inl (fun _ => 0))), ((r_2 2), .inl (T 1, 12, .inl (fun _ => 0))), ((r_2 3), .inl (T 1, 12, .inl (fun _ => 0))), ((r_2 4), .inl (T 1, 12, .inl (fun _ => 0))), ((r_2 5), .inl (T 1, 12, .inl (fun _ => 0))), ((r_2 6), .inl (T 1, 12, .inl (fun _ => 0))), ((r_2 7), .inl (T 1, 12, .inl (fun _ => 0))), ((r_2 8), .inl (T 1, 12, .inl (fun _ => 0))), ((r_2 9), .inl (T 1, 12, .inl (fun _ => 0))), ((r_2 10), .inl (T 1, 12, .inl (fun _ => 0))), ((r_2 11), .inl (T 1, 12, .inl (fun _ => 0)))] ∧ va_S A s.heap H locs ∧ lv_has ls 6 [(5, .int (nI i_k_8)), (4, .int (nI i_k_4)), (2, .long 0), (1, .ref q_1), (0, .ref a1)]) (N := 12) (fun i_k_8 H locs ls hi_k_8 hI ih_k_8 => ?_) (i_k_4 + 1) _ _ _ (by omega) ⟨hP, hD, hS, lv_sub hl [0, 1, 2, 3, 4] rfl⟩
    obtain ⟨hP, hD, hS, hl⟩ := hI
    refine lv_iload hx hb dX12_treeSum_28 (lv_at hl 0 rfl) ?_
    refine lv_bipush (v := 12) hx hb dX12_treeSum_30 (by decide) ?_
    have hz_10 : (nI i_k_8).toInt = ((i_k_8 : Nat) : Int) := nI_toInt (by omega)
    refine lv_icmp_ge (tgt := 66) hx hb dX12_treeSum_32 (by decide) (fun c_9 => ?_) (fun c_9 => ?_)
    · have nc_9 : 12 ≤ (nI i_k_8).toInt := (xi_le (by decide +kernel) rfl).mp c_9
      refine lv_iinc (v := (nI (i_k_4 + 1))) (lv' := [(4, .int (nI (i_k_4 + 1))), (5, .int (nI i_k_8)), (2, .long 0), (1, .ref q_1), (0, .ref a1)]) hx hb dX12_treeSum_66 hl (k := 1) rfl (nI_1 _) (by decide) rfl (fun ls hl => ?_)
      refine lv_goto (tgt := 15) hx hb dX12_treeSum_69 (by decide) ?_
      exact ih_k_4 _ _ _ (by omega) ⟨hP, hD, hS, lv_sub hl [0, 2, 3, 4] rfl⟩
    · have nc_9 : ¬ (12 ≤ (nI i_k_8).toInt) := mt (xi_le (by decide +kernel) rfl).mpr c_9
      refine lv_lload_n hx hb dX12_treeSum_35 rfl (lv_at hl 2 rfl) ?_
      refine lv_aload_n hx hb dX12_treeSum_36 rfl (lv_at hl 3 rfl) ?_
      refine lv_iload hx hb dX12_treeSum_37 (lv_at hl 1 rfl) ?_
      refine xAldq hx hb hK hP 2 3 rfl rfl (vp_in_nI (by omega) (by decide)) dX12_treeSum_39 ?_
      rw [show va_rf ((fun i => if i < 12 then some (r_2 i) else none) ((nI i_k_4) : Int32).toNatClampNeg) = .ref (r_2 i_k_4) from by rw [show ((nI i_k_4) : Int32).toNatClampNeg = i_k_4 from nI_clamp (by omega)]; simp [va_rf, show i_k_4 < 12 by omega]]
      refine lv_iload hx hb dX12_treeSum_40 (lv_at hl 0 rfl) ?_
      have hrow_11 : ∀ i : Nat, i < 12 → ([(a1, .inr (17, [.int 0, .ref a2, .ref a3, .ref a4, .long 0])), (a2, .inl (T 2, 12, .inr (.inr (.inr (.inr (fun _ => none)))))), (q_1, .inl (T 3, 12, .inr (.inr (.inr (.inr (fun i => if i < 12 then some (r_2 i) else none)))))), ((r_2 0), .inl (T 1, 12, .inl (fun _ => 0))), ((r_2 1), .inl (T 1, 12, .inl (fun _ => 0))), ((r_2 2), .inl (T 1, 12, .inl (fun _ => 0))), ((r_2 3), .inl (T 1, 12, .inl (fun _ => 0))), ((r_2 4), .inl (T 1, 12, .inl (fun _ => 0))), ((r_2 5), .inl (T 1, 12, .inl (fun _ => 0))), ((r_2 6), .inl (T 1, 12, .inl (fun _ => 0))), ((r_2 7), .inl (T 1, 12, .inl (fun _ => 0))), ((r_2 8), .inl (T 1, 12, .inl (fun _ => 0))), ((r_2 9), .inl (T 1, 12, .inl (fun _ => 0))), ((r_2 10), .inl (T 1, 12, .inl (fun _ => 0))), ((r_2 11), .inl (T 1, 12, .inl (fun _ => 0)))] : va_W)[3 + i]? = some (r_2 i, .inl (T 1, 12, .inl (fun _ => 0))) := by
        intro i hi
        rcases (show i = 0 ∨ i = 1 ∨ i = 2 ∨ i = 3 ∨ i = 4 ∨ i = 5 ∨ i = 6 ∨ i = 7 ∨ i = 8 ∨ i = 9 ∨ i = 10 ∨ i = 11 by omega) with rfl | rfl | rfl | rfl | rfl | rfl | rfl | rfl | rfl | rfl | rfl | rfl <;> rfl
      refine va_zald hx hb hK hP (3 + i_k_4) 1 (hrow_11 i_k_4 (by omega)) rfl (vp_in_nI (by omega) (by decide)) dX12_treeSum_42 ?_
      refine lv_topi (fun f_12 ef_12 => ?_)
      obtain rfl : f_12 = 0 := ef_12
      refine lv_if_eq (tgt := 57) hx hb dX12_treeSum_43 (by decide) (fun c_13 => ?_) (fun c_13 => absurd (by decide) c_13)
      refine lv_lconst (v := 0) hx hb dX12_treeSum_57 (by decide) ?_
      refine lv_ladd hx hb dX12_treeSum_58 ?_
      refine lv_topl (fun f_14 ef_14 => ?_)
      obtain rfl : f_14 = 0 := ef_14.trans (by decide)
      refine lv_lstore_n (lv' := [(2, .long 0), (5, .int (nI i_k_8)), (4, .int (nI i_k_4)), (1, .ref q_1), (0, .ref a1)]) hx hb dX12_treeSum_59 rfl hl (by decide) rfl (fun ls hl => ?_)
      refine lv_iinc (v := (nI (i_k_8 + 1))) (lv' := [(5, .int (nI (i_k_8 + 1))), (2, .long 0), (4, .int (nI i_k_4)), (1, .ref q_1), (0, .ref a1)]) hx hb dX12_treeSum_60 hl (k := 1) rfl (nI_1 _) (by decide) rfl (fun ls hl => ?_)
      refine lv_goto (tgt := 28) hx hb dX12_treeSum_63 (by decide) ?_
      exact ih_k_8 _ _ _ (by omega) ⟨hP, hD, hS, lv_sub hl [0, 2, 1, 3, 4] rfl⟩
set_option maxHeartbeats 4000000 in
set_option maxRecDepth 100000 in
theorem xcX12_turn (l : Launch) (hst : l.stackTraces = false) (dC : Nat → ClassId) (dI : Nat → Nat → Nat) (T : Nat → ClassId) (a1 : Nat) (a2 : Nat) (a3 : Nat) (a4 : Nat) (sz : Nat) (p1 : Int32) (p2 : Int32) (p3 : Int32) : Met l yX12_turn wsX12_turn ({ frames := 3, cells := 0, slots := 0, locals := 69 } : Room) (va_Pc [.ref a1, .int p1, .int p2, .int p3] (fun U => xB dC dI T [(a1, .inr (17, [.int 0, .ref a2, .ref a3, .ref a4, .long 0])), (a2, .inl (T 2, 12, .inr (.inr (.inr (.inr (fun _ => none))))))] sz U)) (va_Qi (fun (r u : Int32) => r = u) (fun (u : Int32) (t : State) => 0 = u ∧ xE dC dI [(a1, .inr (17, [.int 1, .ref a2, .ref a3, .ref a4, .long 0]))] (va_A [(a1, .inr (17, [.int 0, .ref a2, .ref a3, .ref a4, .long 0])), (a2, .inl (T 2, 12, .inr (.inr (.inr (.inr (fun _ => none))))))] sz) t) (va_A [(a1, .inr (17, [.int 0, .ref a2, .ref a3, .ref a4, .long 0])), (a2, .inl (T 2, 12, .inr (.inr (.inr (.inr (fun _ => none))))))] sz)) 0 0 (va_A [(a1, .inr (17, [.int 0, .ref a2, .ref a3, .ref a4, .long 0])), (a2, .inl (T 2, 12, .inr (.inr (.inr (.inr (fun _ => none))))))] sz) := by
  refine Met.ofW (cc := cX12_turn) (maxL := 4) (ret := (some .int)) (by decide +kernel) rfl ?_
  intro p e s m args below meth c s₁ B hml hv
  obtain ⟨rfl, hsz, hP, hK, hD0, hG⟩ := hv
  have hx := B.exec
  have hb := B.bytes
  have hr := B.returns
  have hts := atoms_spec (ws := wsX12_turn) B.pre
  have hown : s.vm.findClass RX12 = some m.cls := findClass_of_methodNamed B.named
  have hlocks := B.notSynchronized
  subst hsz
  have hD := hD0.self (sz := s.heap.size)
  generalize hAe : va_A [(a1, .inr (17, [.int 0, .ref a2, .ref a3, .ref a4, .long 0])), (a2, .inl (T 2, 12, .inr (.inr (.inr (.inr (fun _ => none))))))] s.heap.size = A at hD hG ⊢
  have hA : ∀ q : Nat, s.heap.size ≤ q → A q := fun q h => by rw [← hAe]; exact Or.inr h
  have hS : va_S A s.heap s.heap [] := va_S.rf
  have hl := lv_entry ([.ref a1, .int p1, .int p2, .int p3]) (n := 4) (Nat.le_of_ble_eq_true rfl)
  rw [lg_entry_eq]
  generalize (lg_sl ([.ref a1, .int p1, .int p2, .int p3]) ++ List.replicate (4 - (lg_sl ([.ref a1, .int p1, .int p2, .int p3])).length) Slot.unset).toArray = ls at hl ⊢
  have hl : lv_has ls 4 [(0, .ref a1), (1, .int p1), (2, .int p2), (3, .int p3)] := hl
  refine lv_aload_n hx hb dX12_turn_0 rfl (lv_at hl 0 rfl) ?_
  refine lv_iload_n hx hb dX12_turn_1 rfl (lv_at hl 1 rfl) ?_
  refine lv_iload_n hx hb dX12_turn_2 rfl (lv_at hl 2 rfl) ?_
  refine lv_iload_n hx hb dX12_turn_3 rfl (lv_at hl 3 rfl) ?_
  have hPc := hP.sub (ws' := [(a1, .inr (17, [.int 0, .ref a2, .ref a3, .ref a4, .long 0])), (a2, .inl (T 2, 12, .inr (.inr (.inr (.inr (fun _ => none))))))]) [0, 1] rfl
  have hDc := hD.sub (ws' := [(a1, .inr (17, [.int 0, .ref a2, .ref a3, .ref a4, .long 0])), (a2, .inl (T 2, 12, .inr (.inr (.inr (.inr (fun _ => none))))))]) [0, 1] (by decide) rfl
  have hFc := va_free (wc := [(a1, .inr (17, [.int 0, .ref a2, .ref a3, .ref a4, .long 0])), (a2, .inl (T 2, 12, .inr (.inr (.inr (.inr (fun _ => none))))))]) hD hS hA [0, 1] rfl
  refine va_calli (va_runV (As := [.int p1, .int p2, .int p3]) (rest := []) ⟨hx, hb, hml, hown, hts⟩ (xcX12_areThree l hst dC dI T a1 a2 a3 a4 s.heap.size p1 p2 p3) (cwV 3 hts gX12_turn_X12_areThree rfl rfl rfl (by decide +kernel) ⟨Nat.le_of_ble_eq_true rfl, Nat.le_of_ble_eq_true rfl⟩) ⟨xBlind, va_recv hK hPc (ci := 17) (q0 := 0) rfl rfl, xCall hK hG hS hPc hDc hFc⟩ rfl rfl hl.1 rfl (lv_room (Nat.le_of_ble_eq_true rfl)) dX12_turn_4 ⟨Nat.le_of_ble_eq_true rfl, Nat.le_of_ble_eq_true rfl⟩) hS (fun q _ h => hFc q h) hFc (fun r_9 u t H locs ht hvm hw hB hz1 hk1 hS => ?_)
  subst hw
  rcases hB with ⟨hr_9, hP1, hD1⟩
  rw [ht] at hP1
  subst hr_9
  obtain ⟨hP, hD⟩ := va_join (wr := []) (w1 := [(a1, .inr (17, [.int 1, .ref a2, .ref a3, .ref a4, .long 0])), (a2, .inl (T 2, 12, .inr (.inr (.inr (.inr (fun _ => none))))))]) hP hD [0, 1] [] rfl rfl (by decide) (by decide) hk1 hFc hP1 hD1
  have hP : va_P (dC, dI) vwCl [(a1, .inr (17, [.int 1, .ref a2, .ref a3, .ref a4, .long 0])), (a2, .inl (T 2, 12, .inr (.inr (.inr (.inr (fun _ => none))))))] H := hP
  have hD : va_D A [(a1, .inr (17, [.int 1, .ref a2, .ref a3, .ref a4, .long 0])), (a2, .inl (T 2, 12, .inr (.inr (.inr (.inr (fun _ => none))))))] := hD
  clear hPc hDc hFc hP1 hD1 hk1 hz1 ht hvm
  refine lv_if_eq (tgt := 20) hx hb dX12_turn_7 (by decide) (fun c_2 => ?_) (fun c_2 => absurd (by decide) c_2)
  refine lv_iconst (v := 0) hx hb dX12_turn_20 (by decide) ?_
  have hP9 := hP.sub (ws' := [(a1, .inr (17, [.int 1, .ref a2, .ref a3, .ref a4, .long 0]))]) [0] rfl
  have hD9 := hD.sub (ws' := [(a1, .inr (17, [.int 1, .ref a2, .ref a3, .ref a4, .long 0]))]) [0] (by decide) rfl
  exact W.iret (v := 0) hx hb hr (fun t ht hW => ⟨⟨_, _, rfl, rfl, ⟨rfl, by rw [ht]; exact hP9, hD9⟩⟩, hS.F ht⟩) hS.2.2 dX12_turn_21
set_option maxHeartbeats 4000000 in
set_option maxRecDepth 100000 in
theorem xcX12_undo (l : Launch) (hst : l.stackTraces = false) (dC : Nat → ClassId) (dI : Nat → Nat → Nat) (T : Nat → ClassId) (a1 : Nat) (a2 : Nat) (a3 : Nat) (a4 : Nat) (sz : Nat) : Met l yX12_undo wsX12_undo ({ frames := 1, cells := 0, slots := 0, locals := 21 } : Room) (va_Pc [.ref a1] (fun U => xB dC dI T [(a1, .inr (17, [.int 0, .ref a2, .ref a3, .ref a4, .long 0])), (a3, .inr (4, [.int 0, .ref (dI 1000 0), .int 0]))] sz U)) (va_Qi (fun (r u : Int32) => r = u) (fun (u : Int32) (t : State) => 0 = u ∧ xE dC dI [(a1, .inr (17, [.int 1, .ref a2, .ref a3, .ref a4, .long 0]))] (va_A [(a1, .inr (17, [.int 0, .ref a2, .ref a3, .ref a4, .long 0])), (a3, .inr (4, [.int 0, .ref (dI 1000 0), .int 0]))] sz) t) (va_A [(a1, .inr (17, [.int 0, .ref a2, .ref a3, .ref a4, .long 0])), (a3, .inr (4, [.int 0, .ref (dI 1000 0), .int 0]))] sz)) 0 0 (va_A [(a1, .inr (17, [.int 0, .ref a2, .ref a3, .ref a4, .long 0])), (a3, .inr (4, [.int 0, .ref (dI 1000 0), .int 0]))] sz) := by
  refine Met.ofW (cc := cX12_undo) (maxL := 1) (ret := (some .int)) (by decide +kernel) rfl ?_
  intro p e s m args below meth c s₁ B hml hv
  obtain ⟨rfl, hsz, hP, hK, hD0, hG⟩ := hv
  have hx := B.exec
  have hb := B.bytes
  have hr := B.returns
  have hts := atoms_spec (ws := wsX12_undo) B.pre
  have hown : s.vm.findClass RX12 = some m.cls := findClass_of_methodNamed B.named
  have hlocks := B.notSynchronized
  have hin_X12 : ∀ w ∈ wsX120, w ∈ wsX12_undo := by decide +kernel
  subst hsz
  have hD := hD0.self (sz := s.heap.size)
  generalize hAe : va_A [(a1, .inr (17, [.int 0, .ref a2, .ref a3, .ref a4, .long 0])), (a3, .inr (4, [.int 0, .ref (dI 1000 0), .int 0]))] s.heap.size = A at hD hG ⊢
  have hA : ∀ q : Nat, s.heap.size ≤ q → A q := fun q h => by rw [← hAe]; exact Or.inr h
  have hS : va_S A s.heap s.heap [] := va_S.rf
  have hl := lv_entry ([.ref a1]) (n := 1) (Nat.le_of_ble_eq_true rfl)
  rw [lg_entry_eq]
  generalize (lg_sl ([.ref a1]) ++ List.replicate (1 - (lg_sl ([.ref a1])).length) Slot.unset).toArray = ls at hl ⊢
  have hl : lv_has ls 1 [(0, .ref a1)] := hl
  refine lv_aload_n hx hb dX12_undo_0 rfl (lv_at hl 0 rfl) ?_
  refine lv_aload_n hx hb dX12_undo_1 rfl (lv_at hl 0 rfl) ?_
  refine va_get (D := (dC, dI)) (ci := 17) (v := .ref a3) (C := RX12) (T := TX12) (N := 5) hx hb hts hin_X12 hown hK hP 0 rfl rfl 2 (by decide) (hts (.fieldLink RX12 18 "NearestwardModel" "undos" "Ljava/util/List;") (by decide +kernel)) (fun _ h9 => h9) rfl dX12_undo_2 ?_
  have hPc := hP.sub (ws' := [(a3, .inr (4, [.int 0, .ref (dI 1000 0), .int 0]))]) [1] rfl
  have hDc := hD.sub (ws' := [(a3, .inr (4, [.int 0, .ref (dI 1000 0), .int 0]))]) [1] (by decide) rfl
  have hFc := va_free (wc := [(a3, .inr (4, [.int 0, .ref (dI 1000 0), .int 0]))]) hD hS hA [1] rfl
  refine va_callFi (va_runF (As := []) (rest := [.ref a1]) (hK.1 4 _ rfl).2 ⟨hx, hb, hml, hown, hts⟩ (xcJx4a65c_isEmpty_aae02 l hst dC dI T a3 s.heap.size) (va_cwF 0 hts gX12_undo_Jx4a65c_isEmpty_aae02_f87Jx4a65c rfl rfl rfl (hG.2.2.2.2.2.2.1 ((⟨"java/util/List", "isEmpty", "()Z"⟩ : MethodName), yJx4a65c_isEmpty_aae02) (List.mem_of_getElem? (i := 2) rfl)) (by decide +kernel) ⟨Nat.le_of_ble_eq_true rfl, Nat.le_of_ble_eq_true rfl⟩) ⟨xBlind, va_recv hK hPc (ci := 4) (q0 := 0) rfl rfl, xCall hK hG hS hPc hDc hFc⟩ rfl rfl hl.1 rfl (lv_room (Nat.le_of_ble_eq_true rfl)) dX12_undo_5 ⟨Nat.le_of_ble_eq_true rfl, Nat.le_of_ble_eq_true rfl⟩) hS (fun q _ h => hFc q h) hFc (fun r_9 u t H locs ht hvm hw hB hz1 hk1 hS => ?_)
  subst hw
  rcases hB with ⟨hr_9, hP1, hD1⟩
  rw [ht] at hP1
  subst hr_9
  obtain ⟨hP, hD⟩ := va_join (wr := [(a1, .inr (17, [.int 0, .ref a2, .ref a3, .ref a4, .long 0]))]) (w1 := [(a3, .inr (4, [.int 0, .ref (dI 1000 0), .int 0]))]) hP hD [1] [0] rfl rfl (by decide) (by decide) hk1 hFc hP1 hD1
  have hP : va_P (dC, dI) vwCl [(a1, .inr (17, [.int 0, .ref a2, .ref a3, .ref a4, .long 0])), (a3, .inr (4, [.int 0, .ref (dI 1000 0), .int 0]))] H := hP
  have hD : va_D A [(a1, .inr (17, [.int 0, .ref a2, .ref a3, .ref a4, .long 0])), (a3, .inr (4, [.int 0, .ref (dI 1000 0), .int 0]))] := hD
  clear hPc hDc hFc hP1 hD1 hk1 hz1 ht hvm
  refine lv_if_eq (tgt := 17) hx hb dX12_undo_10 (by decide) (fun c_2 => absurd c_2 (by decide)) (fun c_2 => ?_)
  refine lv_iconst (v := 1) hx hb dX12_undo_13 (by decide) ?_
  refine lv_goto (tgt := 18) hx hb dX12_undo_14 (by decide) ?_
  have hPc := hP.sub (ws' := [(a1, .inr (17, [.int 0, .ref a2, .ref a3, .ref a4, .long 0]))]) [0] rfl
  have hDc := hD.sub (ws' := [(a1, .inr (17, [.int 0, .ref a2, .ref a3, .ref a4, .long 0]))]) [0] (by decide) rfl
  have hFc := va_free (wc := [(a1, .inr (17, [.int 0, .ref a2, .ref a3, .ref a4, .long 0]))]) hD hS hA [0] rfl
  refine va_calli (va_runV (As := [.int 1]) (rest := []) ⟨hx, hb, hml, hown, hts⟩ (xcX12_isWrong l hst dC dI T a1 a2 a3 a4 H.size) (cwV 1 hts gX12_undo_X12_isWrong rfl rfl rfl (by decide +kernel) ⟨Nat.le_of_ble_eq_true rfl, Nat.le_of_ble_eq_true rfl⟩) ⟨xBlind, va_recv hK hPc (ci := 17) (q0 := 0) rfl rfl, xCall hK hG hS hPc hDc hFc⟩ rfl rfl hl.1 rfl (lv_room (Nat.le_of_ble_eq_true rfl)) dX12_undo_18 ⟨Nat.le_of_ble_eq_true rfl, Nat.le_of_ble_eq_true rfl⟩) hS (fun q _ h => hFc q h) hFc (fun r_9 u t H locs ht hvm hw hB hz1 hk1 hS => ?_)
  subst hw
  rcases hB with ⟨hr_9, hP1, hD1⟩
  rw [ht] at hP1
  subst hr_9
  obtain ⟨hP, hD⟩ := va_join (wr := [(a3, .inr (4, [.int 0, .ref (dI 1000 0), .int 0]))]) (w1 := [(a1, .inr (17, [.int 1, .ref a2, .ref a3, .ref a4, .long 0]))]) hP hD [0] [1] rfl rfl (by decide) (by decide) hk1 hFc hP1 hD1
  have hP := hP.sub (ws' := [(a1, .inr (17, [.int 1, .ref a2, .ref a3, .ref a4, .long 0])), (a3, .inr (4, [.int 0, .ref (dI 1000 0), .int 0]))]) [1, 0] rfl
  have hD := hD.sub (ws' := [(a1, .inr (17, [.int 1, .ref a2, .ref a3, .ref a4, .long 0])), (a3, .inr (4, [.int 0, .ref (dI 1000 0), .int 0]))]) [1, 0] (by decide) rfl
  clear hPc hDc hFc hP1 hD1 hk1 hz1 ht hvm
  refine lv_if_eq (tgt := 26) hx hb dX12_undo_21 (by decide) (fun c_4 => absurd c_4 (by decide)) (fun c_4 => ?_)
  refine lv_iconst (v := 0) hx hb dX12_undo_24 (by decide) ?_
  have hP9 := hP.sub (ws' := [(a1, .inr (17, [.int 1, .ref a2, .ref a3, .ref a4, .long 0]))]) [0] rfl
  have hD9 := hD.sub (ws' := [(a1, .inr (17, [.int 1, .ref a2, .ref a3, .ref a4, .long 0]))]) [0] (by decide) rfl
  exact W.iret (v := 0) hx hb hr (fun t ht hW => ⟨⟨_, _, rfl, rfl, ⟨rfl, by rw [ht]; exact hP9, hD9⟩⟩, hS.F ht⟩) hS.2.2 dX12_undo_25
set_option maxHeartbeats 4000000 in
set_option maxRecDepth 100000 in
theorem xcX12_within (l : Launch) (hst : l.stackTraces = false) (dC : Nat → ClassId) (dI : Nat → Nat → Nat) (T : Nat → ClassId) (a1 : Nat) (a2 : Nat) (a3 : Nat) (a4 : Nat) (sz : Nat) (p1 : Int32) (p2 : Int32) (p3 : Int32) : Met l yX12_within wsX12_within ({ frames := 2, cells := 0, slots := 0, locals := 47 } : Room) (va_Pc [.ref a1, .int p1, .int p2, .int p3] (fun U => xB dC dI T [(a1, .inr (17, [.int 0, .ref a2, .ref a3, .ref a4, .long 0])), (a2, .inl (T 2, 12, .inr (.inr (.inr (.inr (fun _ => none))))))] sz U)) (va_Qi (fun (r u : Int32) => r = u) (fun (u : Int32) (t : State) => ((((((p1.toInt64).toInt < -999) ∨ ((¬ ((p1.toInt64).toInt < -999)) ∧ (999 < (p1.toInt64).toInt))) ∨ (((¬ ((p1.toInt64).toInt < -999)) ∧ (¬ (999 < (p1.toInt64).toInt))) ∧ (((p2.toInt64).toInt < -999) ∨ ((¬ ((p2.toInt64).toInt < -999)) ∧ (999 < (p2.toInt64).toInt))))) ∨ ((((¬ ((p1.toInt64).toInt < -999)) ∧ (¬ (999 < (p1.toInt64).toInt))) ∧ ((¬ ((p2.toInt64).toInt < -999)) ∧ (¬ (999 < (p2.toInt64).toInt)))) ∧ (((p3.toInt64).toInt < 0) ∨ ((¬ ((p3.toInt64).toInt < 0)) ∧ (((9999999) : Int64).toInt < (p3.toInt64).toInt))))) ∧ 0 = u ∧ xE dC dI [(a1, .inr (17, [.int 1, .ref a2, .ref a3, .ref a4, .long 0]))] (va_A [(a1, .inr (17, [.int 0, .ref a2, .ref a3, .ref a4, .long 0])), (a2, .inl (T 2, 12, .inr (.inr (.inr (.inr (fun _ => none))))))] sz) t) ∨ (((((¬ ((p1.toInt64).toInt < -999)) ∧ (¬ (999 < (p1.toInt64).toInt))) ∧ ((¬ ((p2.toInt64).toInt < -999)) ∧ (¬ (999 < (p2.toInt64).toInt)))) ∧ ((¬ ((p3.toInt64).toInt < 0)) ∧ (¬ (((9999999) : Int64).toInt < (p3.toInt64).toInt)))) ∧ 0 = u ∧ xE dC dI [(a1, .inr (17, [.int 0, .ref a2, .ref a3, .ref a4, .long 0]))] (va_A [(a1, .inr (17, [.int 0, .ref a2, .ref a3, .ref a4, .long 0])), (a2, .inl (T 2, 12, .inr (.inr (.inr (.inr (fun _ => none))))))] sz) t)) (va_A [(a1, .inr (17, [.int 0, .ref a2, .ref a3, .ref a4, .long 0])), (a2, .inl (T 2, 12, .inr (.inr (.inr (.inr (fun _ => none))))))] sz)) 0 0 (va_A [(a1, .inr (17, [.int 0, .ref a2, .ref a3, .ref a4, .long 0])), (a2, .inl (T 2, 12, .inr (.inr (.inr (.inr (fun _ => none))))))] sz) := by
  refine Met.ofW (cc := cX12_within) (maxL := 9) (ret := (some .int)) (by decide +kernel) rfl ?_
  intro p e s m args below meth c s₁ B hml hv
  obtain ⟨rfl, hsz, hP, hK, hD0, hG⟩ := hv
  have hx := B.exec
  have hb := B.bytes
  have hr := B.returns
  have hts := atoms_spec (ws := wsX12_within) B.pre
  have hown : s.vm.findClass RX12 = some m.cls := findClass_of_methodNamed B.named
  have hlocks := B.notSynchronized
  have hin_X12 : ∀ w ∈ wsX120, w ∈ wsX12_within := by decide +kernel
  subst hsz
  have hD := hD0.self (sz := s.heap.size)
  generalize hAe : va_A [(a1, .inr (17, [.int 0, .ref a2, .ref a3, .ref a4, .long 0])), (a2, .inl (T 2, 12, .inr (.inr (.inr (.inr (fun _ => none))))))] s.heap.size = A at hD hG ⊢
  have hA : ∀ q : Nat, s.heap.size ≤ q → A q := fun q h => by rw [← hAe]; exact Or.inr h
  have hS : va_S A s.heap s.heap [] := va_S.rf
  have hl := lv_entry ([.ref a1, .int p1, .int p2, .int p3]) (n := 9) (Nat.le_of_ble_eq_true rfl)
  rw [lg_entry_eq]
  generalize (lg_sl ([.ref a1, .int p1, .int p2, .int p3]) ++ List.replicate (9 - (lg_sl ([.ref a1, .int p1, .int p2, .int p3])).length) Slot.unset).toArray = ls at hl ⊢
  have hl : lv_has ls 9 [(0, .ref a1), (1, .int p1), (2, .int p2), (3, .int p3)] := hl
  refine lv_aload_n hx hb dX12_within_0 rfl (lv_at hl 0 rfl) ?_
  refine lv_iload_n hx hb dX12_within_1 rfl (lv_at hl 1 rfl) ?_
  refine lv_iload_n hx hb dX12_within_2 rfl (lv_at hl 2 rfl) ?_
  refine lv_sipush (v := 999) hx hb dX12_within_3 (by decide) ?_
  have hPc := hP.sub (ws' := []) [] rfl
  have hDc := hD.sub (ws' := []) [] (by decide) rfl
  have hFc := va_free (wc := []) hD hS hA [] rfl
  refine va_calli (va_runS (As := [.int p1, .int p2, .int 999]) (rest := [.ref a1]) ⟨hx, hb, hml, hown, hts⟩ (xcX12_isPlace_v2 l hst dC dI T s.heap.size p1 p2) (cwS 3 hts gX12_within_X12_isPlace rfl rfl rfl (by decide +kernel) ⟨Nat.le_of_ble_eq_true rfl, Nat.le_of_ble_eq_true rfl⟩) ⟨xBlind, xCall hK hG hS hPc hDc hFc⟩ rfl rfl hl.1 rfl (lv_room (Nat.le_of_ble_eq_true rfl)) dX12_within_6 ⟨Nat.le_of_ble_eq_true rfl, Nat.le_of_ble_eq_true rfl⟩) hS (fun q _ h => hFc q h) hFc (fun r_9 u t H locs ht hvm hw hB hz1 hk1 hS => ?_)
  subst hw
  rcases hB with ⟨c_1, hr_9, hP1, hD1⟩ | ⟨c_2, hr_9, hP1, hD1⟩
  · have hz_3 : (p1.toInt64).toInt = p1.toInt := Int32.toInt_toInt64 _
    have hz_4 : (p2.toInt64).toInt = p2.toInt := Int32.toInt_toInt64 _
    rw [ht] at hP1
    subst hr_9
    obtain ⟨hP, hD⟩ := va_join (wr := [(a1, .inr (17, [.int 0, .ref a2, .ref a3, .ref a4, .long 0])), (a2, .inl (T 2, 12, .inr (.inr (.inr (.inr (fun _ => none))))))]) (w1 := []) hP hD [] [0, 1] rfl rfl (by decide) (by decide) hk1 hFc hP1 hD1
    have hP : va_P (dC, dI) vwCl [(a1, .inr (17, [.int 0, .ref a2, .ref a3, .ref a4, .long 0])), (a2, .inl (T 2, 12, .inr (.inr (.inr (.inr (fun _ => none))))))] H := hP
    have hD : va_D A [(a1, .inr (17, [.int 0, .ref a2, .ref a3, .ref a4, .long 0])), (a2, .inl (T 2, 12, .inr (.inr (.inr (.inr (fun _ => none))))))] := hD
    clear hPc hDc hFc hP1 hD1 hk1 hz1 ht hvm
    refine lv_if_eq (tgt := 24) hx hb dX12_within_9 (by decide) (fun c_5 => ?_) (fun c_5 => absurd (by decide) c_5)
    refine lv_iconst (v := 1) hx hb dX12_within_24 (by decide) ?_
    refine lv_goto (tgt := 29) hx hb dX12_within_25 (by decide) ?_
    have hPc := hP.sub (ws' := [(a1, .inr (17, [.int 0, .ref a2, .ref a3, .ref a4, .long 0]))]) [0] rfl
    have hDc := hD.sub (ws' := [(a1, .inr (17, [.int 0, .ref a2, .ref a3, .ref a4, .long 0]))]) [0] (by decide) rfl
    have hFc := va_free (wc := [(a1, .inr (17, [.int 0, .ref a2, .ref a3, .ref a4, .long 0]))]) hD hS hA [0] rfl
    refine va_calli (va_runV (As := [.int 1]) (rest := []) ⟨hx, hb, hml, hown, hts⟩ (xcX12_isWrong l hst dC dI T a1 a2 a3 a4 H.size) (cwV 1 hts gX12_within_X12_isWrong rfl rfl rfl (by decide +kernel) ⟨Nat.le_of_ble_eq_true rfl, Nat.le_of_ble_eq_true rfl⟩) ⟨xBlind, va_recv hK hPc (ci := 17) (q0 := 0) rfl rfl, xCall hK hG hS hPc hDc hFc⟩ rfl rfl hl.1 rfl (lv_room (Nat.le_of_ble_eq_true rfl)) dX12_within_29 ⟨Nat.le_of_ble_eq_true rfl, Nat.le_of_ble_eq_true rfl⟩) hS (fun q _ h => hFc q h) hFc (fun r_9 u t H locs ht hvm hw hB hz1 hk1 hS => ?_)
    subst hw
    rcases hB with ⟨hr_9, hP1, hD1⟩
    rw [ht] at hP1
    subst hr_9
    obtain ⟨hP, hD⟩ := va_join (wr := [(a2, .inl (T 2, 12, .inr (.inr (.inr (.inr (fun _ => none))))))]) (w1 := [(a1, .inr (17, [.int 1, .ref a2, .ref a3, .ref a4, .long 0]))]) hP hD [0] [1] rfl rfl (by decide) (by decide) hk1 hFc hP1 hD1
    have hP := hP.sub (ws' := [(a1, .inr (17, [.int 1, .ref a2, .ref a3, .ref a4, .long 0])), (a2, .inl (T 2, 12, .inr (.inr (.inr (.inr (fun _ => none))))))]) [1, 0] rfl
    have hD := hD.sub (ws' := [(a1, .inr (17, [.int 1, .ref a2, .ref a3, .ref a4, .long 0])), (a2, .inl (T 2, 12, .inr (.inr (.inr (.inr (fun _ => none))))))]) [1, 0] (by decide) rfl
    clear hPc hDc hFc hP1 hD1 hk1 hz1 ht hvm
    refine lv_if_eq (tgt := 37) hx hb dX12_within_32 (by decide) (fun c_7 => absurd c_7 (by decide)) (fun c_7 => ?_)
    refine lv_iconst (v := 0) hx hb dX12_within_35 (by decide) ?_
    have hP9 := hP.sub (ws' := [(a1, .inr (17, [.int 1, .ref a2, .ref a3, .ref a4, .long 0]))]) [0] rfl
    have hD9 := hD.sub (ws' := [(a1, .inr (17, [.int 1, .ref a2, .ref a3, .ref a4, .long 0]))]) [0] (by decide) rfl
    exact W.iret (v := 0) hx hb hr (fun t ht hW => ⟨⟨_, _, rfl, rfl, (Or.inl ⟨(Or.inl c_1), rfl, by rw [ht]; exact hP9, hD9⟩)⟩, hS.F ht⟩) hS.2.2 dX12_within_36
  · have hz_8 : (p1.toInt64).toInt = p1.toInt := Int32.toInt_toInt64 _
    have hz_9 : (p2.toInt64).toInt = p2.toInt := Int32.toInt_toInt64 _
    rw [ht] at hP1
    subst hr_9
    obtain ⟨hP, hD⟩ := va_join (wr := [(a1, .inr (17, [.int 0, .ref a2, .ref a3, .ref a4, .long 0])), (a2, .inl (T 2, 12, .inr (.inr (.inr (.inr (fun _ => none))))))]) (w1 := []) hP hD [] [0, 1] rfl rfl (by decide) (by decide) hk1 hFc hP1 hD1
    have hP : va_P (dC, dI) vwCl [(a1, .inr (17, [.int 0, .ref a2, .ref a3, .ref a4, .long 0])), (a2, .inl (T 2, 12, .inr (.inr (.inr (.inr (fun _ => none))))))] H := hP
    have hD : va_D A [(a1, .inr (17, [.int 0, .ref a2, .ref a3, .ref a4, .long 0])), (a2, .inl (T 2, 12, .inr (.inr (.inr (.inr (fun _ => none))))))] := hD
    clear hPc hDc hFc hP1 hD1 hk1 hz1 ht hvm
    refine lv_if_eq (tgt := 24) hx hb dX12_within_9 (by decide) (fun c_10 => absurd c_10 (by decide)) (fun c_10 => ?_)
    refine lv_iload_n hx hb dX12_within_12 rfl (lv_at hl 3 rfl) ?_
    refine lv_i2l hx hb dX12_within_13 rfl ?_
    refine lv_lconst (v := 0) hx hb dX12_within_14 (by decide) ?_
    refine lv_ldc2 (v := 9999999) hx hb hown (hts (.constantLong RX12 121 9999999) (by decide +kernel)) dX12_within_15 ?_
    have hPc := hP.sub (ws' := []) [] rfl
    have hDc := hD.sub (ws' := []) [] (by decide) rfl
    have hFc := va_free (wc := []) hD hS hA [] rfl
    refine va_calli (va_runS (As := [.long p3.toInt64, .long 0, .long 9999999]) (rest := [.ref a1]) ⟨hx, hb, hml, hown, hts⟩ (xcX12_isBetween_v4 l hst dC dI T H.size p3.toInt64 9999999) (cwS 3 hts gX12_within_X12_isBetween rfl rfl rfl (by decide +kernel) ⟨Nat.le_of_ble_eq_true rfl, Nat.le_of_ble_eq_true rfl⟩) ⟨xBlind, xCall hK hG hS hPc hDc hFc⟩ rfl rfl hl.1 rfl (lv_room (Nat.le_of_ble_eq_true rfl)) dX12_within_18 ⟨Nat.le_of_ble_eq_true rfl, Nat.le_of_ble_eq_true rfl⟩) hS (fun q _ h => hFc q h) hFc (fun r_9 u t H locs ht hvm hw hB hz1 hk1 hS => ?_)
    subst hw
    rcases hB with ⟨c_11, hr_9, hP1, hD1⟩ | ⟨c_12, hr_9, hP1, hD1⟩
    · have hz_13 : (p3.toInt64).toInt = p3.toInt := Int32.toInt_toInt64 _
      have hz_14 : ((9999999) : Int64).toInt = 9999999 := by decide +kernel
      rw [ht] at hP1
      subst hr_9
      obtain ⟨hP, hD⟩ := va_join (wr := [(a1, .inr (17, [.int 0, .ref a2, .ref a3, .ref a4, .long 0])), (a2, .inl (T 2, 12, .inr (.inr (.inr (.inr (fun _ => none))))))]) (w1 := []) hP hD [] [0, 1] rfl rfl (by decide) (by decide) hk1 hFc hP1 hD1
      have hP : va_P (dC, dI) vwCl [(a1, .inr (17, [.int 0, .ref a2, .ref a3, .ref a4, .long 0])), (a2, .inl (T 2, 12, .inr (.inr (.inr (.inr (fun _ => none))))))] H := hP
      have hD : va_D A [(a1, .inr (17, [.int 0, .ref a2, .ref a3, .ref a4, .long 0])), (a2, .inl (T 2, 12, .inr (.inr (.inr (.inr (fun _ => none))))))] := hD
      clear hPc hDc hFc hP1 hD1 hk1 hz1 ht hvm
      refine lv_if_ne (tgt := 28) hx hb dX12_within_21 (by decide) (fun c_15 => absurd c_15 (by decide)) (fun c_15 => ?_)
      refine lv_iconst (v := 1) hx hb dX12_within_24 (by decide) ?_
      refine lv_goto (tgt := 29) hx hb dX12_within_25 (by decide) ?_
      have hPc := hP.sub (ws' := [(a1, .inr (17, [.int 0, .ref a2, .ref a3, .ref a4, .long 0]))]) [0] rfl
      have hDc := hD.sub (ws' := [(a1, .inr (17, [.int 0, .ref a2, .ref a3, .ref a4, .long 0]))]) [0] (by decide) rfl
      have hFc := va_free (wc := [(a1, .inr (17, [.int 0, .ref a2, .ref a3, .ref a4, .long 0]))]) hD hS hA [0] rfl
      refine va_calli (va_runV (As := [.int 1]) (rest := []) ⟨hx, hb, hml, hown, hts⟩ (xcX12_isWrong l hst dC dI T a1 a2 a3 a4 H.size) (cwV 1 hts gX12_within_X12_isWrong rfl rfl rfl (by decide +kernel) ⟨Nat.le_of_ble_eq_true rfl, Nat.le_of_ble_eq_true rfl⟩) ⟨xBlind, va_recv hK hPc (ci := 17) (q0 := 0) rfl rfl, xCall hK hG hS hPc hDc hFc⟩ rfl rfl hl.1 rfl (lv_room (Nat.le_of_ble_eq_true rfl)) dX12_within_29 ⟨Nat.le_of_ble_eq_true rfl, Nat.le_of_ble_eq_true rfl⟩) hS (fun q _ h => hFc q h) hFc (fun r_9 u t H locs ht hvm hw hB hz1 hk1 hS => ?_)
      subst hw
      rcases hB with ⟨hr_9, hP1, hD1⟩
      rw [ht] at hP1
      subst hr_9
      obtain ⟨hP, hD⟩ := va_join (wr := [(a2, .inl (T 2, 12, .inr (.inr (.inr (.inr (fun _ => none))))))]) (w1 := [(a1, .inr (17, [.int 1, .ref a2, .ref a3, .ref a4, .long 0]))]) hP hD [0] [1] rfl rfl (by decide) (by decide) hk1 hFc hP1 hD1
      have hP := hP.sub (ws' := [(a1, .inr (17, [.int 1, .ref a2, .ref a3, .ref a4, .long 0])), (a2, .inl (T 2, 12, .inr (.inr (.inr (.inr (fun _ => none))))))]) [1, 0] rfl
      have hD := hD.sub (ws' := [(a1, .inr (17, [.int 1, .ref a2, .ref a3, .ref a4, .long 0])), (a2, .inl (T 2, 12, .inr (.inr (.inr (.inr (fun _ => none))))))]) [1, 0] (by decide) rfl
      clear hPc hDc hFc hP1 hD1 hk1 hz1 ht hvm
      refine lv_if_eq (tgt := 37) hx hb dX12_within_32 (by decide) (fun c_17 => absurd c_17 (by decide)) (fun c_17 => ?_)
      refine lv_iconst (v := 0) hx hb dX12_within_35 (by decide) ?_
      have hP9 := hP.sub (ws' := [(a1, .inr (17, [.int 1, .ref a2, .ref a3, .ref a4, .long 0]))]) [0] rfl
      have hD9 := hD.sub (ws' := [(a1, .inr (17, [.int 1, .ref a2, .ref a3, .ref a4, .long 0]))]) [0] (by decide) rfl
      exact W.iret (v := 0) hx hb hr (fun t ht hW => ⟨⟨_, _, rfl, rfl, (Or.inl ⟨(Or.inr (⟨c_2, c_11⟩)), rfl, by rw [ht]; exact hP9, hD9⟩)⟩, hS.F ht⟩) hS.2.2 dX12_within_36
    · have hz_18 : (p3.toInt64).toInt = p3.toInt := Int32.toInt_toInt64 _
      have hz_19 : ((9999999) : Int64).toInt = 9999999 := by decide +kernel
      rw [ht] at hP1
      subst hr_9
      obtain ⟨hP, hD⟩ := va_join (wr := [(a1, .inr (17, [.int 0, .ref a2, .ref a3, .ref a4, .long 0])), (a2, .inl (T 2, 12, .inr (.inr (.inr (.inr (fun _ => none))))))]) (w1 := []) hP hD [] [0, 1] rfl rfl (by decide) (by decide) hk1 hFc hP1 hD1
      have hP : va_P (dC, dI) vwCl [(a1, .inr (17, [.int 0, .ref a2, .ref a3, .ref a4, .long 0])), (a2, .inl (T 2, 12, .inr (.inr (.inr (.inr (fun _ => none))))))] H := hP
      have hD : va_D A [(a1, .inr (17, [.int 0, .ref a2, .ref a3, .ref a4, .long 0])), (a2, .inl (T 2, 12, .inr (.inr (.inr (.inr (fun _ => none))))))] := hD
      clear hPc hDc hFc hP1 hD1 hk1 hz1 ht hvm
      refine lv_if_ne (tgt := 28) hx hb dX12_within_21 (by decide) (fun c_20 => ?_) (fun c_20 => absurd c_20 (by decide))
      refine lv_iconst (v := 0) hx hb dX12_within_28 (by decide) ?_
      have hPc := hP.sub (ws' := [(a1, .inr (17, [.int 0, .ref a2, .ref a3, .ref a4, .long 0]))]) [0] rfl
      have hDc := hD.sub (ws' := [(a1, .inr (17, [.int 0, .ref a2, .ref a3, .ref a4, .long 0]))]) [0] (by decide) rfl
      have hFc := va_free (wc := [(a1, .inr (17, [.int 0, .ref a2, .ref a3, .ref a4, .long 0]))]) hD hS hA [0] rfl
      refine va_calli (va_runV (As := [.int 0]) (rest := []) ⟨hx, hb, hml, hown, hts⟩ (xcX12_isWrong_v2 l hst dC dI T a1 a2 a3 a4 H.size) (cwV 1 hts gX12_within_X12_isWrong rfl rfl rfl (by decide +kernel) ⟨Nat.le_of_ble_eq_true rfl, Nat.le_of_ble_eq_true rfl⟩) ⟨xBlind, va_recv hK hPc (ci := 17) (q0 := 0) rfl rfl, xCall hK hG hS hPc hDc hFc⟩ rfl rfl hl.1 rfl (lv_room (Nat.le_of_ble_eq_true rfl)) dX12_within_29 ⟨Nat.le_of_ble_eq_true rfl, Nat.le_of_ble_eq_true rfl⟩) hS (fun q _ h => hFc q h) hFc (fun r_9 u t H locs ht hvm hw hB hz1 hk1 hS => ?_)
      subst hw
      rcases hB with ⟨hr_9, hP1, hD1⟩
      rw [ht] at hP1
      subst hr_9
      obtain ⟨hP, hD⟩ := va_join (wr := [(a2, .inl (T 2, 12, .inr (.inr (.inr (.inr (fun _ => none))))))]) (w1 := [(a1, .inr (17, [.int 0, .ref a2, .ref a3, .ref a4, .long 0]))]) hP hD [0] [1] rfl rfl (by decide) (by decide) hk1 hFc hP1 hD1
      have hP := hP.sub (ws' := [(a1, .inr (17, [.int 0, .ref a2, .ref a3, .ref a4, .long 0])), (a2, .inl (T 2, 12, .inr (.inr (.inr (.inr (fun _ => none))))))]) [1, 0] rfl
      have hD := hD.sub (ws' := [(a1, .inr (17, [.int 0, .ref a2, .ref a3, .ref a4, .long 0])), (a2, .inl (T 2, 12, .inr (.inr (.inr (.inr (fun _ => none))))))]) [1, 0] (by decide) rfl
      clear hPc hDc hFc hP1 hD1 hk1 hz1 ht hvm
      refine lv_if_eq (tgt := 37) hx hb dX12_within_32 (by decide) (fun c_22 => ?_) (fun c_22 => absurd (by decide) c_22)
      refine lv_iconst (v := 0) hx hb dX12_within_37 (by decide) ?_
      refine lv_istore (lv' := [(4, .int 0), (0, .ref a1), (1, .int p1), (2, .int p2), (3, .int p3)]) hx hb dX12_within_38 hl (by decide) rfl (fun ls hl => ?_)
      refine lv_aload_n hx hb dX12_within_40 rfl (lv_at hl 1 rfl) ?_
      refine va_get (D := (dC, dI)) (ci := 17) (v := .ref a2) (C := RX12) (T := TX12) (N := 5) hx hb hts hin_X12 hown hK hP 0 rfl rfl 1 (by decide) (hts (.fieldLink RX12 11 "NearestwardModel" "points" "[[I") (by decide +kernel)) (fun _ h9 => h9) rfl dX12_within_41 ?_
      refine lv_astore (lv' := [(5, .ref a2), (4, .int 0), (0, .ref a1), (1, .int p1), (2, .int p2), (3, .int p3)]) hx hb dX12_within_44 hl (by decide) rfl (fun ls hl => ?_)
      refine lv_aload hx hb dX12_within_46 (lv_at hl 0 rfl) ?_
      refine va_alen (v := 12) hx hb hK hP 1 2 rfl rfl (by decide) dX12_within_48 ?_
      refine lv_istore (lv' := [(6, .int 12), (5, .ref a2), (4, .int 0), (0, .ref a1), (1, .int p1), (2, .int p2), (3, .int p3)]) hx hb dX12_within_49 hl (by decide) rfl (fun ls hl => ?_)
      refine lv_iconst (v := 0) hx hb dX12_within_51 (by decide) ?_
      refine lv_istore (lv' := [(7, .int 0), (6, .int 12), (5, .ref a2), (4, .int 0), (0, .ref a1), (1, .int p1), (2, .int p2), (3, .int p3)]) hx hb dX12_within_52 hl (by decide) rfl (fun ls hl => ?_)
      refine xLoop (P := fun i_k_23 H locs ls => va_P (dC, dI) vwCl [(a1, .inr (17, [.int 0, .ref a2, .ref a3, .ref a4, .long 0])), (a2, .inl (T 2, 12, .inr (.inr (.inr (.inr (fun _ => none))))))] H ∧ va_D A [(a1, .inr (17, [.int 0, .ref a2, .ref a3, .ref a4, .long 0])), (a2, .inl (T 2, 12, .inr (.inr (.inr (.inr (fun _ => none))))))] ∧ va_S A s.heap H locs ∧ lv_has ls 9 [(7, .int (nI i_k_23)), (6, .int 12), (5, .ref a2), (4, .int 0), (1, .int p1), (2, .int p2), (3, .int p3)]) (N := 12) (fun i_k_23 H locs ls hi_k_23 hI ih_k_23 => ?_) (0) _ _ _ (by omega) ⟨hP, hD, hS, lv_sub hl [0, 1, 2, 3, 5, 6, 7] rfl⟩
      obtain ⟨hP, hD, hS, hl⟩ := hI
      refine lv_iload hx hb dX12_within_54 (lv_at hl 0 rfl) ?_
      refine lv_iload hx hb dX12_within_56 (lv_at hl 1 rfl) ?_
      have hz_25 : (nI i_k_23).toInt = ((i_k_23 : Nat) : Int) := nI_toInt (by omega)
      refine lv_icmp_ge (tgt := 104) hx hb dX12_within_58 (by decide) (fun c_24 => ?_) (fun c_24 => ?_)
      · have nc_24 : 12 ≤ (nI i_k_23).toInt := (xi_le (by decide +kernel) rfl).mp c_24
        refine lv_iload hx hb dX12_within_104 (lv_at hl 3 rfl) ?_
        have hP9 := hP.sub (ws' := [(a1, .inr (17, [.int 0, .ref a2, .ref a3, .ref a4, .long 0]))]) [0] rfl
        have hD9 := hD.sub (ws' := [(a1, .inr (17, [.int 0, .ref a2, .ref a3, .ref a4, .long 0]))]) [0] (by decide) rfl
        exact W.iret (v := 0) hx hb hr (fun t ht hW => ⟨⟨_, _, rfl, rfl, (Or.inr (⟨⟨c_2, c_12⟩, rfl, by rw [ht]; exact hP9, hD9⟩))⟩, hS.F ht⟩) hS.2.2 dX12_within_106
      · have nc_24 : ¬ (12 ≤ (nI i_k_23).toInt) := mt (xi_le (by decide +kernel) rfl).mpr c_24
        refine lv_aload hx hb dX12_within_61 (lv_at hl 2 rfl) ?_
        refine lv_iload hx hb dX12_within_63 (lv_at hl 0 rfl) ?_
        refine xAldq hx hb hK hP 1 2 rfl rfl (vp_in_nI (by omega) (by decide)) dX12_within_65 ?_
        refine lv_astoreN (lv' := [(8, .null), (7, .int (nI i_k_23)), (6, .int 12), (5, .ref a2), (4, .int 0), (1, .int p1), (2, .int p2), (3, .int p3)]) hx hb dX12_within_66 hl (by decide) rfl (fun ls hl => ?_)
        refine lv_iload hx hb dX12_within_68 (lv_at hl 4 rfl) ?_
        refine lv_aloadN hx hb dX12_within_70 (lv_at hl 0 rfl) ?_
        refine lv_ifnullN (tgt := 94) hx hb dX12_within_72 (by decide) ?_
        refine lv_iconst (v := 0) hx hb dX12_within_94 (by decide) ?_
        refine lv_iadd hx hb dX12_within_95 ?_
        refine lv_topi (fun f_26 ef_26 => ?_)
        obtain rfl : f_26 = 0 := ef_26.trans (by decide)
        refine lv_istore (lv' := [(4, .int 0), (8, .null), (7, .int (nI i_k_23)), (6, .int 12), (5, .ref a2), (1, .int p1), (2, .int p2), (3, .int p3)]) hx hb dX12_within_96 hl (by decide) rfl (fun ls hl => ?_)
        refine lv_iinc (v := (nI (i_k_23 + 1))) (lv' := [(7, .int (nI (i_k_23 + 1))), (4, .int 0), (8, .null), (6, .int 12), (5, .ref a2), (1, .int p1), (2, .int p2), (3, .int p3)]) hx hb dX12_within_98 hl (k := 2) rfl (nI_1 _) (by decide) rfl (fun ls hl => ?_)
        refine lv_goto (tgt := 54) hx hb dX12_within_101 (by decide) ?_
        exact ih_k_23 _ _ _ (by omega) ⟨hP, hD, hS, lv_sub hl [0, 3, 4, 1, 5, 6, 7] rfl⟩
