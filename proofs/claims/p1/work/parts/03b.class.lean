set_option maxHeartbeats 4000000 in
set_option maxRecDepth 100000 in
theorem xcX11_countNeighbours (l : Launch) (hst : l.stackTraces = false) (dC : Nat → ClassId) (dI : Nat → Nat → Nat) (T : Nat → ClassId) (a1 : Nat) (a2 : Nat) (a3 : Nat) (a4 : Nat) (a5 : Nat) (a6 : Nat) (a7 : Nat) (a8 : Nat) (a9 : Nat) (a10 : Nat) (a11 : Nat) (a12 : Nat) (a13 : Nat) (a14 : Nat) (a15 : Nat) (a16 : Nat) (sz : Nat) (p1 : Int32) : vx_Met l yX11_countNeighbours wsX11_countNeighbours ({ frames := 7, cells := 1, slots := 6, locals := 103 } : Room) (va_Pc [.ref a1, .int p1] (fun U => xB dC dI T [(a1, .inr (16, [.ref a2, .ref a3, .ref a4, .ref a5, .ref a6, .ref a7, .ref a8, .ref a9, .ref a10, .ref a11])), (a2, .inr (10, [.ref a12, .ref a13, .ref a14, .ref a15, .ref a16, .int 0, .int 0]))] sz U)) (va_Qi (fun (r u : Int32) => r = u) (fun (u : Int32) (t : State) => False) (va_A [(a1, .inr (16, [.ref a2, .ref a3, .ref a4, .ref a5, .ref a6, .ref a7, .ref a8, .ref a9, .ref a10, .ref a11])), (a2, .inr (10, [.ref a12, .ref a13, .ref a14, .ref a15, .ref a16, .int 0, .int 0]))] sz)) (vx_X (fun _ : Unit => True) (fun (E : String) (_ : Unit) (t : State) => E = "java/lang/IndexOutOfBoundsException" ∧ xE dC dI [] (va_A [(a1, .inr (16, [.ref a2, .ref a3, .ref a4, .ref a5, .ref a6, .ref a7, .ref a8, .ref a9, .ref a10, .ref a11])), (a2, .inr (10, [.ref a12, .ref a13, .ref a14, .ref a15, .ref a16, .int 0, .int 0]))] sz) t) (va_A [(a1, .inr (16, [.ref a2, .ref a3, .ref a4, .ref a5, .ref a6, .ref a7, .ref a8, .ref a9, .ref a10, .ref a11])), (a2, .inr (10, [.ref a12, .ref a13, .ref a14, .ref a15, .ref a16, .int 0, .int 0]))] sz)) 1 6 (va_A [(a1, .inr (16, [.ref a2, .ref a3, .ref a4, .ref a5, .ref a6, .ref a7, .ref a8, .ref a9, .ref a10, .ref a11])), (a2, .inr (10, [.ref a12, .ref a13, .ref a14, .ref a15, .ref a16, .int 0, .int 0]))] sz) := by
  refine vx_ofW (cc := cX11_countNeighbours) (maxL := 2) (ret := (some .int)) (by decide +kernel) rfl ?_
  intro p e s m args below meth c s₁ B hml hex hv
  obtain ⟨rfl, hsz, hP, hK, hD0, hG⟩ := hv
  have hx := B.exec
  have hb := B.bytes
  have hr := B.returns
  have hts := atoms_spec (ws := wsX11_countNeighbours) B.pre
  have hown : s.vm.findClass RX11 = some m.cls := findClass_of_methodNamed B.named
  have hlocks := B.notSynchronized
  subst hsz
  have hD := hD0.self (sz := s.heap.size)
  generalize hAe : va_A [(a1, .inr (16, [.ref a2, .ref a3, .ref a4, .ref a5, .ref a6, .ref a7, .ref a8, .ref a9, .ref a10, .ref a11])), (a2, .inr (10, [.ref a12, .ref a13, .ref a14, .ref a15, .ref a16, .int 0, .int 0]))] s.heap.size = A at hD hG ⊢
  have hA : ∀ q : Nat, s.heap.size ≤ q → A q := fun q h => by rw [← hAe]; exact Or.inr h
  have hS : va_S A s.heap s.heap [] := va_S.rf
  have hl := lv_entry ([.ref a1, .int p1]) (n := 2) (Nat.le_of_ble_eq_true rfl)
  rw [lg_entry_eq]
  generalize (lg_sl ([.ref a1, .int p1]) ++ List.replicate (2 - (lg_sl ([.ref a1, .int p1])).length) Slot.unset).toArray = ls at hl ⊢
  have hl : lv_has ls 2 [(0, .ref a1), (1, .int p1)] := hl
  refine lv_aload_n hx hb dX11_countNeighbours_0 rfl (lv_at hl 0 rfl) ?_
  refine lv_iload_n hx hb dX11_countNeighbours_1 rfl (lv_at hl 1 rfl) ?_
  have hPc := hP.sub (ws' := [(a1, .inr (16, [.ref a2, .ref a3, .ref a4, .ref a5, .ref a6, .ref a7, .ref a8, .ref a9, .ref a10, .ref a11])), (a2, .inr (10, [.ref a12, .ref a13, .ref a14, .ref a15, .ref a16, .int 0, .int 0]))]) [0, 1] rfl
  have hDc := hD.sub (ws' := [(a1, .inr (16, [.ref a2, .ref a3, .ref a4, .ref a5, .ref a6, .ref a7, .ref a8, .ref a9, .ref a10, .ref a11])), (a2, .inr (10, [.ref a12, .ref a13, .ref a14, .ref a15, .ref a16, .int 0, .int 0]))]) [0, 1] (by decide) rfl
  have hFc := va_free (wc := [(a1, .inr (16, [.ref a2, .ref a3, .ref a4, .ref a5, .ref a6, .ref a7, .ref a8, .ref a9, .ref a10, .ref a11])), (a2, .inr (10, [.ref a12, .ref a13, .ref a14, .ref a15, .ref a16, .int 0, .int 0]))]) hD hS hA [0, 1] rfl
  refine vx_callv (vx_runV (As := [.int p1]) (rest := []) ⟨hx, hb, hml, hown, hts⟩ (xcX11_needPoint l hst dC dI T a1 a2 a3 a4 a5 a6 a7 a8 a9 a10 a11 a12 a13 a14 a15 a16 s.heap.size p1) (cwV 1 hts gX11_countNeighbours_X11_needPoint rfl rfl rfl (by decide +kernel) ⟨Nat.le_of_ble_eq_true rfl, Nat.le_of_ble_eq_true rfl⟩) ⟨xBlind, va_recv hK hPc (ci := 16) (q0 := 0) rfl rfl, xCall hK hG hS hPc hDc hFc⟩ rfl rfl hl.1 rfl (lv_room (Nat.le_of_ble_eq_true rfl)) dX11_countNeighbours_2 ⟨Nat.le_of_ble_eq_true rfl, Nat.le_of_ble_eq_true rfl⟩) hS (fun q _ h => hFc q h) hFc (fun q _ h => hFc q h) (fun E ce q9 u t H locs ht hvm hw hB hz1 hk1 hS hce hcv hcl => ?_) (fun u t H locs ht hvm hw hB hz1 hk1 hS => ?_)
  · rcases hB with ⟨hE, hP1, hD1⟩
    subst hE
    rw [ht] at hP1
    obtain ⟨hP, hD⟩ := va_join (wr := []) (w1 := [(a1, .inr (16, [.ref a2, .ref a3, .ref a4, .ref a5, .ref a6, .ref a7, .ref a8, .ref a9, .ref a10, .ref a11])), (a2, .inr (10, [.ref a12, .ref a13, .ref a14, .ref a15, .ref a16, .int 0, .int 0]))]) hP hD [0, 1] [] rfl rfl (by decide) (by decide) hk1 hFc hP1 hD1
    have hP : va_P (dC, dI) vwCl [(a1, .inr (16, [.ref a2, .ref a3, .ref a4, .ref a5, .ref a6, .ref a7, .ref a8, .ref a9, .ref a10, .ref a11])), (a2, .inr (10, [.ref a12, .ref a13, .ref a14, .ref a15, .ref a16, .int 0, .int 0]))] H := hP
    have hD : va_D A [(a1, .inr (16, [.ref a2, .ref a3, .ref a4, .ref a5, .ref a6, .ref a7, .ref a8, .ref a9, .ref a10, .ref a11])), (a2, .inr (10, [.ref a12, .ref a13, .ref a14, .ref a15, .ref a16, .int 0, .int 0]))] := hD
    clear hPc hDc hFc hP1 hD1 hk1 hz1 ht hvm
    have hP9 := hP.sub (ws' := []) [] rfl
    have hD9 := hD.sub (ws' := []) [] (by decide) rfl
    exact vx_out (fun x hx => absurd (hex x hx) id) hlocks hce hcv hcl (fun t ht _ => ⟨(), trivial, ⟨rfl, by rw [ht]; exact hP9, hD9⟩, hS.F ht⟩) hS.2.2 (Nat.le_of_ble_eq_true rfl) (Nat.le_of_ble_eq_true rfl)
  · exact absurd hB id
set_option maxHeartbeats 4000000 in
set_option maxRecDepth 100000 in
theorem xcL_countNeighbours (l : Launch) (hst : l.stackTraces = false) (dC : Nat → ClassId) (dI : Nat → Nat → Nat) (T : Nat → ClassId) (a1 : Nat) (a2 : Nat) (a3 : Nat) (a4 : Nat) (a5 : Nat) (a6 : Nat) (a7 : Nat) (a8 : Nat) (a9 : Nat) (a10 : Nat) (a11 : Nat) (a12 : Nat) (a13 : Nat) (a14 : Nat) (a15 : Nat) (a16 : Nat) (a17 : Nat) (sz : Nat) (p1 : Int32) : Met l yL_countNeighbours wsL_countNeighbours ({ frames := 8, cells := 1, slots := 6, locals := 124 } : Room) (va_Pc [.ref a1, .int p1, .ref a2] (fun U => xB dC dI T [(a1, .inr (16, [.ref a3, .ref a4, .ref a5, .ref a6, .ref a7, .ref a8, .ref a9, .ref a10, .ref a11, .ref a12])), (a3, .inr (10, [.ref a13, .ref a14, .ref a15, .ref a16, .ref a17, .int 0, .int 0]))] sz U)) (va_Qi (fun (r u : Int32) => r = u) (fun (u : Int32) (t : State) => 1 = u ∧ xE dC dI [] (va_A [(a1, .inr (16, [.ref a3, .ref a4, .ref a5, .ref a6, .ref a7, .ref a8, .ref a9, .ref a10, .ref a11, .ref a12])), (a3, .inr (10, [.ref a13, .ref a14, .ref a15, .ref a16, .ref a17, .int 0, .int 0]))] sz) t) (va_A [(a1, .inr (16, [.ref a3, .ref a4, .ref a5, .ref a6, .ref a7, .ref a8, .ref a9, .ref a10, .ref a11, .ref a12])), (a3, .inr (10, [.ref a13, .ref a14, .ref a15, .ref a16, .ref a17, .int 0, .int 0]))] sz)) 1 6 (va_A [(a1, .inr (16, [.ref a3, .ref a4, .ref a5, .ref a6, .ref a7, .ref a8, .ref a9, .ref a10, .ref a11, .ref a12])), (a3, .inr (10, [.ref a13, .ref a14, .ref a15, .ref a16, .ref a17, .int 0, .int 0]))] sz) := by
  refine va_MetW (cc := cL_countNeighbours) (maxL := 4) (ret := (some .int)) (hh := [(0, 9, 12, 23)]) (by decide +kernel) rfl ?_
  intro p e s m args below meth c s₁ B hml hv
  obtain ⟨rfl, hsz, hP, hK, hD0, hG⟩ := hv
  have hx := B.exec
  have hb := B.bytes
  have hr := B.returns
  have hts := atoms_spec (ws := wsL_countNeighbours) B.pre
  have hown : s.vm.findClass RL = some m.cls := findClass_of_methodNamed B.named
  have hlocks := B.notSynchronized
  have htab := vx_table (x := yL_countNeighbours) B (hts (.codeWith yL_countNeighbours cL_countNeighbours 4 (some .int) [(0, 9, 12, 23)]) (by decide +kernel))
  subst hsz
  have hD := hD0.self (sz := s.heap.size)
  generalize hAe : va_A [(a1, .inr (16, [.ref a3, .ref a4, .ref a5, .ref a6, .ref a7, .ref a8, .ref a9, .ref a10, .ref a11, .ref a12])), (a3, .inr (10, [.ref a13, .ref a14, .ref a15, .ref a16, .ref a17, .int 0, .int 0]))] s.heap.size = A at hD hG ⊢
  have hA : ∀ q : Nat, s.heap.size ≤ q → A q := fun q h => by rw [← hAe]; exact Or.inr h
  have hS : va_S A s.heap s.heap [] := va_S.rf
  have hl := lv_entry ([.ref a1, .int p1, .ref a2]) (n := 4) (Nat.le_of_ble_eq_true rfl)
  rw [lg_entry_eq]
  generalize (lg_sl ([.ref a1, .int p1, .ref a2]) ++ List.replicate (4 - (lg_sl ([.ref a1, .int p1, .ref a2])).length) Slot.unset).toArray = ls at hl ⊢
  have hl : lv_has ls 4 [(0, .ref a1), (1, .int p1), (2, .ref a2)] := hl
  refine lv_aload_n hx hb dL_countNeighbours_0 rfl (lv_at hl 2 rfl) ?_
  refine lv_iconst (v := 0) hx hb dL_countNeighbours_1 (by decide) ?_
  refine lv_aload_n hx hb dL_countNeighbours_2 rfl (lv_at hl 0 rfl) ?_
  refine lv_iload_n hx hb dL_countNeighbours_3 rfl (lv_at hl 1 rfl) ?_
  have hPc := hP.sub (ws' := [(a1, .inr (16, [.ref a3, .ref a4, .ref a5, .ref a6, .ref a7, .ref a8, .ref a9, .ref a10, .ref a11, .ref a12])), (a3, .inr (10, [.ref a13, .ref a14, .ref a15, .ref a16, .ref a17, .int 0, .int 0]))]) [0, 1] rfl
  have hDc := hD.sub (ws' := [(a1, .inr (16, [.ref a3, .ref a4, .ref a5, .ref a6, .ref a7, .ref a8, .ref a9, .ref a10, .ref a11, .ref a12])), (a3, .inr (10, [.ref a13, .ref a14, .ref a15, .ref a16, .ref a17, .int 0, .int 0]))]) [0, 1] (by decide) rfl
  have hFc := va_free (wc := [(a1, .inr (16, [.ref a3, .ref a4, .ref a5, .ref a6, .ref a7, .ref a8, .ref a9, .ref a10, .ref a11, .ref a12])), (a3, .inr (10, [.ref a13, .ref a14, .ref a15, .ref a16, .ref a17, .int 0, .int 0]))]) hD hS hA [0, 1] rfl
  refine vx_calli (vx_runV (As := [.int p1]) (rest := [.int 0, .ref a2]) ⟨hx, hb, hml, hown, hts⟩ (xcX11_countNeighbours l hst dC dI T a1 a3 a4 a5 a6 a7 a8 a9 a10 a11 a12 a13 a14 a15 a16 a17 s.heap.size p1) (cwV 1 hts gL_countNeighbours_X11_countNeighbours rfl rfl rfl (by decide +kernel) ⟨Nat.le_of_ble_eq_true rfl, Nat.le_of_ble_eq_true rfl⟩) ⟨xBlind, va_recv hK hPc (ci := 16) (q0 := 0) rfl rfl, xCall hK hG hS hPc hDc hFc⟩ rfl rfl hl.1 rfl (lv_room (Nat.le_of_ble_eq_true rfl)) dL_countNeighbours_4 ⟨Nat.le_of_ble_eq_true rfl, Nat.le_of_ble_eq_true rfl⟩) hS (fun q _ h => hFc q h) hFc (fun q _ h => hFc q h) (fun E ce q9 u t H locs ht hvm hw hB hz1 hk1 hS hce hcv hcl => ?_) (fun r_9 u t H locs ht hvm hw hB hz1 hk1 hS => ?_)
  · rcases hB with ⟨hE, hP1, hD1⟩
    subst hE
    rw [ht] at hP1
    obtain ⟨hP, hD⟩ := va_join (wr := []) (w1 := []) hP hD [0, 1] [] rfl rfl (by decide) (by decide) hk1 hFc hP1 hD1
    have hP : va_P (dC, dI) vwCl [] H := hP
    have hD : va_D A [] := hD
    clear hPc hDc hFc hP1 hD1 hk1 hz1 ht hvm
    refine vx_catch (E := "java/lang/IndexOutOfBoundsException") (name := "java/lang/IndexOutOfBoundsException") hown [] ⟨0, 9, 12, 23⟩ [] (htab.trans rfl) (fun _ h => absurd h List.not_mem_nil) (by decide) (by decide) (hts (.classLink RL 23 "java/lang/IndexOutOfBoundsException") (by decide +kernel)) (xBad_use hG.2.2.2.1 _ (by decide +kernel)) hce hcv hcl ?_
    refine lv_astore_n (lv' := [(3, .ref q9), (0, .ref a1), (1, .int p1), (2, .ref a2)]) hx hb dL_countNeighbours_12 rfl hl (by decide) rfl (fun ls hl => ?_)
    refine lv_iconst (v := 1) hx hb dL_countNeighbours_13 (by decide) ?_
    have hP9 := hP.sub (ws' := []) [] rfl
    have hD9 := hD.sub (ws' := []) [] (by decide) rfl
    exact W.iret (v := 1) hx hb hr (fun t ht hW => ⟨⟨_, _, rfl, rfl, ⟨rfl, by rw [ht]; exact hP9, hD9⟩⟩, hS.F ht⟩) hS.2.2 dL_countNeighbours_14
  · exact absurd hB id
set_option maxHeartbeats 4000000 in
set_option maxRecDepth 100000 in
theorem xcX11_countParts (l : Launch) (hst : l.stackTraces = false) (dC : Nat → ClassId) (dI : Nat → Nat → Nat) (T : Nat → ClassId) (a1 : Nat) (a2 : Nat) (a3 : Nat) (a4 : Nat) (a5 : Nat) (a6 : Nat) (a7 : Nat) (a8 : Nat) (a9 : Nat) (a10 : Nat) (a11 : Nat) (a12 : Nat) (a13 : Nat) (a14 : Nat) (a15 : Nat) (a16 : Nat) (a18 : Nat) (a19 : Nat) (a24 : Nat) (a25 : Nat) (sz : Nat) (p1 : Int32) : vx_Met l yX11_countParts wsX11_countParts ({ frames := 7, cells := 1, slots := 6, locals := 104 } : Room) (va_Pc [.ref a1, .int p1] (fun U => xB dC dI T [(a1, .inr (16, [.ref a2, .ref a3, .ref a4, .ref a5, .ref a6, .ref a7, .ref a8, .ref a9, .ref a10, .ref a11])), (a2, .inr (10, [.ref a12, .ref a13, .ref a14, .ref a15, .ref a16, .int 0, .int 0])), (a4, .inr (8, [.ref a18, .ref a19, .int 0, .int (-1)])), (a19, .inl (T 0, 12, .inl (fun _ => 0))), (a7, .inr (14, [.ref a24, .int 0, .int 0])), (a24, .inr (13, [.ref a25, .int 0])), (a25, .inl (T 0, 12, .inl (fun _ => 0)))] sz U)) (va_Qi (fun (r u : Int32) => r = u) (fun (u : Int32) (t : State) => ((¬ (p1.toInt < 0)) ∧ (p1.toInt ≤ ((99999) : Int32).toInt)) ∧ 0 = u ∧ xE dC dI [] (va_A [(a1, .inr (16, [.ref a2, .ref a3, .ref a4, .ref a5, .ref a6, .ref a7, .ref a8, .ref a9, .ref a10, .ref a11])), (a2, .inr (10, [.ref a12, .ref a13, .ref a14, .ref a15, .ref a16, .int 0, .int 0])), (a4, .inr (8, [.ref a18, .ref a19, .int 0, .int (-1)])), (a19, .inl (T 0, 12, .inl (fun _ => 0))), (a7, .inr (14, [.ref a24, .int 0, .int 0])), (a24, .inr (13, [.ref a25, .int 0])), (a25, .inl (T 0, 12, .inl (fun _ => 0)))] sz) t) (va_A [(a1, .inr (16, [.ref a2, .ref a3, .ref a4, .ref a5, .ref a6, .ref a7, .ref a8, .ref a9, .ref a10, .ref a11])), (a2, .inr (10, [.ref a12, .ref a13, .ref a14, .ref a15, .ref a16, .int 0, .int 0])), (a4, .inr (8, [.ref a18, .ref a19, .int 0, .int (-1)])), (a19, .inl (T 0, 12, .inl (fun _ => 0))), (a7, .inr (14, [.ref a24, .int 0, .int 0])), (a24, .inr (13, [.ref a25, .int 0])), (a25, .inl (T 0, 12, .inl (fun _ => 0)))] sz)) (vx_X (fun _ : Unit => True) (fun (E : String) (_ : Unit) (t : State) => ((p1.toInt < 0) ∨ ((¬ (p1.toInt < 0)) ∧ (¬ (p1.toInt ≤ ((99999) : Int32).toInt)))) ∧ E = "java/lang/IllegalArgumentException" ∧ xE dC dI [] (va_A [(a1, .inr (16, [.ref a2, .ref a3, .ref a4, .ref a5, .ref a6, .ref a7, .ref a8, .ref a9, .ref a10, .ref a11])), (a2, .inr (10, [.ref a12, .ref a13, .ref a14, .ref a15, .ref a16, .int 0, .int 0])), (a4, .inr (8, [.ref a18, .ref a19, .int 0, .int (-1)])), (a19, .inl (T 0, 12, .inl (fun _ => 0))), (a7, .inr (14, [.ref a24, .int 0, .int 0])), (a24, .inr (13, [.ref a25, .int 0])), (a25, .inl (T 0, 12, .inl (fun _ => 0)))] sz) t) (va_A [(a1, .inr (16, [.ref a2, .ref a3, .ref a4, .ref a5, .ref a6, .ref a7, .ref a8, .ref a9, .ref a10, .ref a11])), (a2, .inr (10, [.ref a12, .ref a13, .ref a14, .ref a15, .ref a16, .int 0, .int 0])), (a4, .inr (8, [.ref a18, .ref a19, .int 0, .int (-1)])), (a19, .inl (T 0, 12, .inl (fun _ => 0))), (a7, .inr (14, [.ref a24, .int 0, .int 0])), (a24, .inr (13, [.ref a25, .int 0])), (a25, .inl (T 0, 12, .inl (fun _ => 0)))] sz)) 1 6 (va_A [(a1, .inr (16, [.ref a2, .ref a3, .ref a4, .ref a5, .ref a6, .ref a7, .ref a8, .ref a9, .ref a10, .ref a11])), (a2, .inr (10, [.ref a12, .ref a13, .ref a14, .ref a15, .ref a16, .int 0, .int 0])), (a4, .inr (8, [.ref a18, .ref a19, .int 0, .int (-1)])), (a19, .inl (T 0, 12, .inl (fun _ => 0))), (a7, .inr (14, [.ref a24, .int 0, .int 0])), (a24, .inr (13, [.ref a25, .int 0])), (a25, .inl (T 0, 12, .inl (fun _ => 0)))] sz) := by
  refine vx_ofW (cc := cX11_countParts) (maxL := 2) (ret := (some .int)) (by decide +kernel) rfl ?_
  intro p e s m args below meth c s₁ B hml hex hv
  obtain ⟨rfl, hsz, hP, hK, hD0, hG⟩ := hv
  have hx := B.exec
  have hb := B.bytes
  have hr := B.returns
  have hts := atoms_spec (ws := wsX11_countParts) B.pre
  have hown : s.vm.findClass RX11 = some m.cls := findClass_of_methodNamed B.named
  have hlocks := B.notSynchronized
  have hin_X11 : ∀ w ∈ wsX110, w ∈ wsX11_countParts := by decide +kernel
  have hin_X8 : ∀ w ∈ wsX80, w ∈ wsX11_countParts := by decide +kernel
  have hin_X9 : ∀ w ∈ wsX90, w ∈ wsX11_countParts := by decide +kernel
  subst hsz
  have hD := hD0.self (sz := s.heap.size)
  generalize hAe : va_A [(a1, .inr (16, [.ref a2, .ref a3, .ref a4, .ref a5, .ref a6, .ref a7, .ref a8, .ref a9, .ref a10, .ref a11])), (a2, .inr (10, [.ref a12, .ref a13, .ref a14, .ref a15, .ref a16, .int 0, .int 0])), (a4, .inr (8, [.ref a18, .ref a19, .int 0, .int (-1)])), (a19, .inl (T 0, 12, .inl (fun _ => 0))), (a7, .inr (14, [.ref a24, .int 0, .int 0])), (a24, .inr (13, [.ref a25, .int 0])), (a25, .inl (T 0, 12, .inl (fun _ => 0)))] s.heap.size = A at hD hG ⊢
  have hA : ∀ q : Nat, s.heap.size ≤ q → A q := fun q h => by rw [← hAe]; exact Or.inr h
  have hS : va_S A s.heap s.heap [] := va_S.rf
  have hl := lv_entry ([.ref a1, .int p1]) (n := 2) (Nat.le_of_ble_eq_true rfl)
  rw [lg_entry_eq]
  generalize (lg_sl ([.ref a1, .int p1]) ++ List.replicate (2 - (lg_sl ([.ref a1, .int p1])).length) Slot.unset).toArray = ls at hl ⊢
  have hl : lv_has ls 2 [(0, .ref a1), (1, .int p1)] := hl
  refine lv_iload_n hx hb dX11_countParts_0 rfl (lv_at hl 1 rfl) ?_
  refine lv_iconst (v := 0) hx hb dX11_countParts_1 (by decide) ?_
  refine lv_ldc (v := 99999) hx hb hown (hts (.constant RX11 252 99999) (by decide +kernel)) dX11_countParts_2 ?_
  have hPc := hP.sub (ws' := []) [] rfl
  have hDc := hD.sub (ws' := []) [] (by decide) rfl
  have hFc := va_free (wc := []) hD hS hA [] rfl
  refine vx_callv (vx_runS (As := [.int p1, .int 0, .int 99999]) (rest := []) ⟨hx, hb, hml, hown, hts⟩ (xcX11_needRange_v3 l hst dC dI T s.heap.size p1 99999) (cwS 3 hts gX11_countParts_X11_needRange rfl rfl rfl (by decide +kernel) ⟨Nat.le_of_ble_eq_true rfl, Nat.le_of_ble_eq_true rfl⟩) ⟨xBlind, xCall hK hG hS hPc hDc hFc⟩ rfl rfl hl.1 rfl (lv_room (Nat.le_of_ble_eq_true rfl)) dX11_countParts_4 ⟨Nat.le_of_ble_eq_true rfl, Nat.le_of_ble_eq_true rfl⟩) hS (fun q _ h => hFc q h) hFc (fun q _ h => hFc q h) (fun E ce q9 u t H locs ht hvm hw hB hz1 hk1 hS hce hcv hcl => ?_) (fun u t H locs ht hvm hw hB hz1 hk1 hS => ?_)
  · rcases hB with ⟨c_1, hE, hP1, hD1⟩
    have hz_2 : ((99999) : Int32).toInt = 99999 := by decide +kernel
    subst hE
    rw [ht] at hP1
    obtain ⟨hP, hD⟩ := va_join (wr := [(a1, .inr (16, [.ref a2, .ref a3, .ref a4, .ref a5, .ref a6, .ref a7, .ref a8, .ref a9, .ref a10, .ref a11])), (a2, .inr (10, [.ref a12, .ref a13, .ref a14, .ref a15, .ref a16, .int 0, .int 0])), (a4, .inr (8, [.ref a18, .ref a19, .int 0, .int (-1)])), (a19, .inl (T 0, 12, .inl (fun _ => 0))), (a7, .inr (14, [.ref a24, .int 0, .int 0])), (a24, .inr (13, [.ref a25, .int 0])), (a25, .inl (T 0, 12, .inl (fun _ => 0)))]) (w1 := []) hP hD [] [0, 1, 2, 3, 4, 5, 6] rfl rfl (by decide) (by decide) hk1 hFc hP1 hD1
    have hP : va_P (dC, dI) vwCl [(a1, .inr (16, [.ref a2, .ref a3, .ref a4, .ref a5, .ref a6, .ref a7, .ref a8, .ref a9, .ref a10, .ref a11])), (a2, .inr (10, [.ref a12, .ref a13, .ref a14, .ref a15, .ref a16, .int 0, .int 0])), (a4, .inr (8, [.ref a18, .ref a19, .int 0, .int (-1)])), (a19, .inl (T 0, 12, .inl (fun _ => 0))), (a7, .inr (14, [.ref a24, .int 0, .int 0])), (a24, .inr (13, [.ref a25, .int 0])), (a25, .inl (T 0, 12, .inl (fun _ => 0)))] H := hP
    have hD : va_D A [(a1, .inr (16, [.ref a2, .ref a3, .ref a4, .ref a5, .ref a6, .ref a7, .ref a8, .ref a9, .ref a10, .ref a11])), (a2, .inr (10, [.ref a12, .ref a13, .ref a14, .ref a15, .ref a16, .int 0, .int 0])), (a4, .inr (8, [.ref a18, .ref a19, .int 0, .int (-1)])), (a19, .inl (T 0, 12, .inl (fun _ => 0))), (a7, .inr (14, [.ref a24, .int 0, .int 0])), (a24, .inr (13, [.ref a25, .int 0])), (a25, .inl (T 0, 12, .inl (fun _ => 0)))] := hD
    clear hPc hDc hFc hP1 hD1 hk1 hz1 ht hvm
    have hP9 := hP.sub (ws' := []) [] rfl
    have hD9 := hD.sub (ws' := []) [] (by decide) rfl
    exact vx_out (fun x hx => absurd (hex x hx) id) hlocks hce hcv hcl (fun t ht _ => ⟨(), trivial, ⟨c_1, rfl, by rw [ht]; exact hP9, hD9⟩, hS.F ht⟩) hS.2.2 (Nat.le_of_ble_eq_true rfl) (Nat.le_of_ble_eq_true rfl)
  · rcases hB with ⟨c_3, hP1, hD1⟩
    have hz_4 : ((99999) : Int32).toInt = 99999 := by decide +kernel
    rw [ht] at hP1
    obtain ⟨hP, hD⟩ := va_join (wr := [(a1, .inr (16, [.ref a2, .ref a3, .ref a4, .ref a5, .ref a6, .ref a7, .ref a8, .ref a9, .ref a10, .ref a11])), (a2, .inr (10, [.ref a12, .ref a13, .ref a14, .ref a15, .ref a16, .int 0, .int 0])), (a4, .inr (8, [.ref a18, .ref a19, .int 0, .int (-1)])), (a19, .inl (T 0, 12, .inl (fun _ => 0))), (a7, .inr (14, [.ref a24, .int 0, .int 0])), (a24, .inr (13, [.ref a25, .int 0])), (a25, .inl (T 0, 12, .inl (fun _ => 0)))]) (w1 := []) hP hD [] [0, 1, 2, 3, 4, 5, 6] rfl rfl (by decide) (by decide) hk1 hFc hP1 hD1
    have hP : va_P (dC, dI) vwCl [(a1, .inr (16, [.ref a2, .ref a3, .ref a4, .ref a5, .ref a6, .ref a7, .ref a8, .ref a9, .ref a10, .ref a11])), (a2, .inr (10, [.ref a12, .ref a13, .ref a14, .ref a15, .ref a16, .int 0, .int 0])), (a4, .inr (8, [.ref a18, .ref a19, .int 0, .int (-1)])), (a19, .inl (T 0, 12, .inl (fun _ => 0))), (a7, .inr (14, [.ref a24, .int 0, .int 0])), (a24, .inr (13, [.ref a25, .int 0])), (a25, .inl (T 0, 12, .inl (fun _ => 0)))] H := hP
    have hD : va_D A [(a1, .inr (16, [.ref a2, .ref a3, .ref a4, .ref a5, .ref a6, .ref a7, .ref a8, .ref a9, .ref a10, .ref a11])), (a2, .inr (10, [.ref a12, .ref a13, .ref a14, .ref a15, .ref a16, .int 0, .int 0])), (a4, .inr (8, [.ref a18, .ref a19, .int 0, .int (-1)])), (a19, .inl (T 0, 12, .inl (fun _ => 0))), (a7, .inr (14, [.ref a24, .int 0, .int 0])), (a24, .inr (13, [.ref a25, .int 0])), (a25, .inl (T 0, 12, .inl (fun _ => 0)))] := hD
    clear hPc hDc hFc hP1 hD1 hk1 hz1 ht hvm
    refine lv_aload_n hx hb dX11_countParts_7 rfl (lv_at hl 0 rfl) ?_
    refine va_get (D := (dC, dI)) (ci := 16) (v := .ref a4) (C := RX11) (T := TX11) (N := 10) hx hb hts hin_X11 hown hK hP 0 rfl rfl 2 (by decide) (hts (.fieldLink RX11 26 "Nearestward" "triangles" "LNearestward$FatTriangles;") (by decide +kernel)) (fun _ h9 => h9) rfl dX11_countParts_8 ?_
    refine lv_aload_n hx hb dX11_countParts_11 rfl (lv_at hl 0 rfl) ?_
    refine va_get (D := (dC, dI)) (ci := 16) (v := .ref a2) (C := RX11) (T := TX11) (N := 10) hx hb hts hin_X11 hown hK hP 0 rfl rfl 0 (by decide) (hts (.fieldLink RX11 12 "Nearestward" "ground" "LNearestward$Ground;") (by decide +kernel)) (fun _ h9 => h9) rfl dX11_countParts_12 ?_
    have hPc := hP.sub (ws' := [(a2, .inr (10, [.ref a12, .ref a13, .ref a14, .ref a15, .ref a16, .int 0, .int 0])), (a4, .inr (8, [.ref a18, .ref a19, .int 0, .int (-1)])), (a19, .inl (T 0, 12, .inl (fun _ => 0)))]) [1, 2, 3] rfl
    have hDc := hD.sub (ws' := [(a2, .inr (10, [.ref a12, .ref a13, .ref a14, .ref a15, .ref a16, .int 0, .int 0])), (a4, .inr (8, [.ref a18, .ref a19, .int 0, .int (-1)])), (a19, .inl (T 0, 12, .inl (fun _ => 0)))]) [1, 2, 3] (by decide) rfl
    have hFc := va_free (wc := [(a2, .inr (10, [.ref a12, .ref a13, .ref a14, .ref a15, .ref a16, .int 0, .int 0])), (a4, .inr (8, [.ref a18, .ref a19, .int 0, .int (-1)])), (a19, .inl (T 0, 12, .inl (fun _ => 0)))]) hD hS hA [1, 2, 3] rfl
    refine va_callv (va_runV (As := [.ref a2]) (rest := []) ⟨hx, hb, hml, hown, hts⟩ (xcX3_findIn l hst dC dI T a4 a2 a12 a13 a14 a15 a16 a18 a19 H.size) (cwV 1 hts gX11_countParts_X3_findIn rfl rfl rfl (by decide +kernel) ⟨Nat.le_of_ble_eq_true rfl, Nat.le_of_ble_eq_true rfl⟩) ⟨xBlind, va_recv hK hPc (ci := 8) (q0 := 1) rfl rfl, xCall hK hG hS hPc hDc hFc⟩ rfl rfl hl.1 rfl (lv_room (Nat.le_of_ble_eq_true rfl)) dX11_countParts_15 ⟨Nat.le_of_ble_eq_true rfl, Nat.le_of_ble_eq_true rfl⟩) hS (fun q _ h => hFc q h) hFc (fun u t H locs ht hvm hw hB hz1 hk1 hS => ?_)
    rcases hB with ⟨hP1, hD1⟩
    rw [ht] at hP1
    obtain ⟨hP, hD⟩ := va_join (wr := [(a1, .inr (16, [.ref a2, .ref a3, .ref a4, .ref a5, .ref a6, .ref a7, .ref a8, .ref a9, .ref a10, .ref a11])), (a7, .inr (14, [.ref a24, .int 0, .int 0])), (a24, .inr (13, [.ref a25, .int 0])), (a25, .inl (T 0, 12, .inl (fun _ => 0)))]) (w1 := [(a2, .inr (10, [.ref a12, .ref a13, .ref a14, .ref a15, .ref a16, .int 0, .int 0])), (a4, .inr (8, [.ref a18, .ref a19, .int 0, .int 0])), (a19, .inl (T 0, 12, .inl (fun _ => 0)))]) hP hD [1, 2, 3] [0, 4, 5, 6] rfl rfl (by decide) (by decide) hk1 hFc hP1 hD1
    have hP := hP.sub (ws' := [(a1, .inr (16, [.ref a2, .ref a3, .ref a4, .ref a5, .ref a6, .ref a7, .ref a8, .ref a9, .ref a10, .ref a11])), (a2, .inr (10, [.ref a12, .ref a13, .ref a14, .ref a15, .ref a16, .int 0, .int 0])), (a4, .inr (8, [.ref a18, .ref a19, .int 0, .int 0])), (a19, .inl (T 0, 12, .inl (fun _ => 0))), (a7, .inr (14, [.ref a24, .int 0, .int 0])), (a24, .inr (13, [.ref a25, .int 0])), (a25, .inl (T 0, 12, .inl (fun _ => 0)))]) [0, 4, 5, 6, 1, 2, 3] rfl
    have hD := hD.sub (ws' := [(a1, .inr (16, [.ref a2, .ref a3, .ref a4, .ref a5, .ref a6, .ref a7, .ref a8, .ref a9, .ref a10, .ref a11])), (a2, .inr (10, [.ref a12, .ref a13, .ref a14, .ref a15, .ref a16, .int 0, .int 0])), (a4, .inr (8, [.ref a18, .ref a19, .int 0, .int 0])), (a19, .inl (T 0, 12, .inl (fun _ => 0))), (a7, .inr (14, [.ref a24, .int 0, .int 0])), (a24, .inr (13, [.ref a25, .int 0])), (a25, .inl (T 0, 12, .inl (fun _ => 0)))]) [0, 4, 5, 6, 1, 2, 3] (by decide) rfl
    clear hPc hDc hFc hP1 hD1 hk1 hz1 ht hvm
    refine lv_aload_n hx hb dX11_countParts_18 rfl (lv_at hl 0 rfl) ?_
    refine va_get (D := (dC, dI)) (ci := 16) (v := .ref a7) (C := RX11) (T := TX11) (N := 10) hx hb hts hin_X11 hown hK hP 0 rfl rfl 5 (by decide) (hts (.fieldLink RX11 47 "Nearestward" "shape" "LNearestward$Shape;") (by decide +kernel)) (fun _ h9 => h9) rfl dX11_countParts_19 ?_
    refine lv_aload_n hx hb dX11_countParts_22 rfl (lv_at hl 0 rfl) ?_
    refine va_get (D := (dC, dI)) (ci := 16) (v := .ref a2) (C := RX11) (T := TX11) (N := 10) hx hb hts hin_X11 hown hK hP 0 rfl rfl 0 (by decide) (hts (.fieldLink RX11 12 "Nearestward" "ground" "LNearestward$Ground;") (by decide +kernel)) (fun _ h9 => h9) rfl dX11_countParts_23 ?_
    refine lv_aload_n hx hb dX11_countParts_26 rfl (lv_at hl 0 rfl) ?_
    refine va_get (D := (dC, dI)) (ci := 16) (v := .ref a4) (C := RX11) (T := TX11) (N := 10) hx hb hts hin_X11 hown hK hP 0 rfl rfl 2 (by decide) (hts (.fieldLink RX11 26 "Nearestward" "triangles" "LNearestward$FatTriangles;") (by decide +kernel)) (fun _ h9 => h9) rfl dX11_countParts_27 ?_
    refine lv_iload_n hx hb dX11_countParts_30 rfl (lv_at hl 1 rfl) ?_
    have hPc := hP.sub (ws' := [(a2, .inr (10, [.ref a12, .ref a13, .ref a14, .ref a15, .ref a16, .int 0, .int 0])), (a4, .inr (8, [.ref a18, .ref a19, .int 0, .int 0])), (a19, .inl (T 0, 12, .inl (fun _ => 0))), (a7, .inr (14, [.ref a24, .int 0, .int 0])), (a24, .inr (13, [.ref a25, .int 0])), (a25, .inl (T 0, 12, .inl (fun _ => 0)))]) [1, 2, 3, 4, 5, 6] rfl
    have hDc := hD.sub (ws' := [(a2, .inr (10, [.ref a12, .ref a13, .ref a14, .ref a15, .ref a16, .int 0, .int 0])), (a4, .inr (8, [.ref a18, .ref a19, .int 0, .int 0])), (a19, .inl (T 0, 12, .inl (fun _ => 0))), (a7, .inr (14, [.ref a24, .int 0, .int 0])), (a24, .inr (13, [.ref a25, .int 0])), (a25, .inl (T 0, 12, .inl (fun _ => 0)))]) [1, 2, 3, 4, 5, 6] (by decide) rfl
    have hFc := va_free (wc := [(a2, .inr (10, [.ref a12, .ref a13, .ref a14, .ref a15, .ref a16, .int 0, .int 0])), (a4, .inr (8, [.ref a18, .ref a19, .int 0, .int 0])), (a19, .inl (T 0, 12, .inl (fun _ => 0))), (a7, .inr (14, [.ref a24, .int 0, .int 0])), (a24, .inr (13, [.ref a25, .int 0])), (a25, .inl (T 0, 12, .inl (fun _ => 0)))]) hD hS hA [1, 2, 3, 4, 5, 6] rfl
    refine va_callv (va_runV (As := [.ref a2, .ref a4, .int p1]) (rest := []) ⟨hx, hb, hml, hown, hts⟩ (xcX9_cutAt l hst dC dI T a7 a2 a4 a12 a13 a14 a15 a16 a18 a19 a24 a25 H.size p1) (cwV 3 hts gX11_countParts_X9_cutAt rfl rfl rfl (by decide +kernel) ⟨Nat.le_of_ble_eq_true rfl, Nat.le_of_ble_eq_true rfl⟩) ⟨xBlind, va_recv hK hPc (ci := 14) (q0 := 3) rfl rfl, xCall hK hG hS hPc hDc hFc⟩ rfl rfl hl.1 rfl (lv_room (Nat.le_of_ble_eq_true rfl)) dX11_countParts_31 ⟨Nat.le_of_ble_eq_true rfl, Nat.le_of_ble_eq_true rfl⟩) hS (fun q _ h => hFc q h) hFc (fun u t H locs ht hvm hw hB hz1 hk1 hS => ?_)
    rcases hB with ⟨g_6, hP1, hD1⟩
    rw [ht] at hP1
    obtain ⟨hP, hD⟩ := va_join (wr := [(a1, .inr (16, [.ref a2, .ref a3, .ref a4, .ref a5, .ref a6, .ref a7, .ref a8, .ref a9, .ref a10, .ref a11]))]) (w1 := [(a2, .inr (10, [.ref a12, .ref a13, .ref a14, .ref a15, .ref a16, .int 0, .int 0])), (a4, .inr (8, [.ref a18, .ref a19, .int 0, .int 0])), (a19, .inl (T 0, 12, .inl (fun _ => 0))), (a7, .inr (14, [.ref a24, .int 0, .int 0])), (a24, .inr (13, [.ref a25, .int 0])), (a25, .inl (T 0, 12, .inl g_6))]) hP hD [1, 2, 3, 4, 5, 6] [0] rfl rfl (by decide) (by decide) hk1 hFc hP1 hD1
    have hP : va_P (dC, dI) vwCl [(a1, .inr (16, [.ref a2, .ref a3, .ref a4, .ref a5, .ref a6, .ref a7, .ref a8, .ref a9, .ref a10, .ref a11])), (a2, .inr (10, [.ref a12, .ref a13, .ref a14, .ref a15, .ref a16, .int 0, .int 0])), (a4, .inr (8, [.ref a18, .ref a19, .int 0, .int 0])), (a19, .inl (T 0, 12, .inl (fun _ => 0))), (a7, .inr (14, [.ref a24, .int 0, .int 0])), (a24, .inr (13, [.ref a25, .int 0])), (a25, .inl (T 0, 12, .inl g_6))] H := hP
    have hD : va_D A [(a1, .inr (16, [.ref a2, .ref a3, .ref a4, .ref a5, .ref a6, .ref a7, .ref a8, .ref a9, .ref a10, .ref a11])), (a2, .inr (10, [.ref a12, .ref a13, .ref a14, .ref a15, .ref a16, .int 0, .int 0])), (a4, .inr (8, [.ref a18, .ref a19, .int 0, .int 0])), (a19, .inl (T 0, 12, .inl (fun _ => 0))), (a7, .inr (14, [.ref a24, .int 0, .int 0])), (a24, .inr (13, [.ref a25, .int 0])), (a25, .inl (T 0, 12, .inl g_6))] := hD
    clear hPc hDc hFc hP1 hD1 hk1 hz1 ht hvm
    refine lv_aload_n hx hb dX11_countParts_34 rfl (lv_at hl 0 rfl) ?_
    refine va_get (D := (dC, dI)) (ci := 16) (v := .ref a7) (C := RX11) (T := TX11) (N := 10) hx hb hts hin_X11 hown hK hP 0 rfl rfl 5 (by decide) (hts (.fieldLink RX11 47 "Nearestward" "shape" "LNearestward$Shape;") (by decide +kernel)) (fun _ h9 => h9) rfl dX11_countParts_35 ?_
    refine va_get (D := (dC, dI)) (ci := 14) (v := .ref a24) (C := RX9) (T := TX9) (N := 3) hx hb hts hin_X9 hown hK hP 4 rfl rfl 0 (by decide) (hts (.fieldLink RX11 257 "Nearestward$Shape" "parts" "LNearestward$Parts;") (by decide +kernel)) (fun _ h9 => h9) rfl dX11_countParts_38 ?_
    refine va_get (D := (dC, dI)) (ci := 13) (v := .int 0) (C := RX8) (T := TX8) (N := 2) hx hb hts hin_X8 hown hK hP 5 rfl rfl 1 (by decide) (hts (.fieldLink RX11 261 "Nearestward$Parts" "count" "I") (by decide +kernel)) (fun _ h9 => h9) rfl dX11_countParts_41 ?_
    refine vx_ret ?_
    have hP9 := hP.sub (ws' := []) [] rfl
    have hD9 := hD.sub (ws' := []) [] (by decide) rfl
    exact W.iret (v := 0) hx hb hr (fun t ht hW => ⟨⟨_, _, rfl, rfl, ⟨c_3, rfl, by rw [ht]; exact hP9, hD9⟩⟩, hS.F ht⟩) hS.2.2 dX11_countParts_44
set_option maxHeartbeats 4000000 in
set_option maxRecDepth 100000 in
theorem xcL_countParts (l : Launch) (hst : l.stackTraces = false) (dC : Nat → ClassId) (dI : Nat → Nat → Nat) (T : Nat → ClassId) (a1 : Nat) (a2 : Nat) (a3 : Nat) (a4 : Nat) (a5 : Nat) (a6 : Nat) (a7 : Nat) (a8 : Nat) (a9 : Nat) (a10 : Nat) (a11 : Nat) (a12 : Nat) (a13 : Nat) (a14 : Nat) (a15 : Nat) (a16 : Nat) (a17 : Nat) (a19 : Nat) (a20 : Nat) (a25 : Nat) (a26 : Nat) (sz : Nat) (p1 : Int32) : Met l yL_countParts wsL_countParts ({ frames := 8, cells := 1, slots := 6, locals := 125 } : Room) (va_Pc [.ref a1, .int p1, .ref a2] (fun U => xB dC dI T [(a1, .inr (16, [.ref a3, .ref a4, .ref a5, .ref a6, .ref a7, .ref a8, .ref a9, .ref a10, .ref a11, .ref a12])), (a3, .inr (10, [.ref a13, .ref a14, .ref a15, .ref a16, .ref a17, .int 0, .int 0])), (a5, .inr (8, [.ref a19, .ref a20, .int 0, .int (-1)])), (a20, .inl (T 0, 12, .inl (fun _ => 0))), (a8, .inr (14, [.ref a25, .int 0, .int 0])), (a25, .inr (13, [.ref a26, .int 0])), (a26, .inl (T 0, 12, .inl (fun _ => 0))), (a2, .inl (T 5, 1, .inr (.inl (fun _ => 0))))] sz U)) (va_Qi (fun (r u : Int32) => r = u) (fun (u : Int32) (t : State) => (((p1.toInt < 0) ∨ ((¬ (p1.toInt < 0)) ∧ (¬ (p1.toInt ≤ ((99999) : Int32).toInt)))) ∧ 1 = u ∧ xE dC dI [(a2, .inl (T 5, 1, .inr (.inl (fun _ => 0))))] (va_A [(a1, .inr (16, [.ref a3, .ref a4, .ref a5, .ref a6, .ref a7, .ref a8, .ref a9, .ref a10, .ref a11, .ref a12])), (a3, .inr (10, [.ref a13, .ref a14, .ref a15, .ref a16, .ref a17, .int 0, .int 0])), (a5, .inr (8, [.ref a19, .ref a20, .int 0, .int (-1)])), (a20, .inl (T 0, 12, .inl (fun _ => 0))), (a8, .inr (14, [.ref a25, .int 0, .int 0])), (a25, .inr (13, [.ref a26, .int 0])), (a26, .inl (T 0, 12, .inl (fun _ => 0))), (a2, .inl (T 5, 1, .inr (.inl (fun _ => 0))))] sz) t) ∨ (((¬ (p1.toInt < 0)) ∧ (p1.toInt ≤ ((99999) : Int32).toInt)) ∧ 0 = u ∧ xE dC dI [(a2, .inl (T 5, 1, .inr (.inl (vp_updL (fun _ => 0) (0 : Int32).toNatClampNeg 0))))] (va_A [(a1, .inr (16, [.ref a3, .ref a4, .ref a5, .ref a6, .ref a7, .ref a8, .ref a9, .ref a10, .ref a11, .ref a12])), (a3, .inr (10, [.ref a13, .ref a14, .ref a15, .ref a16, .ref a17, .int 0, .int 0])), (a5, .inr (8, [.ref a19, .ref a20, .int 0, .int (-1)])), (a20, .inl (T 0, 12, .inl (fun _ => 0))), (a8, .inr (14, [.ref a25, .int 0, .int 0])), (a25, .inr (13, [.ref a26, .int 0])), (a26, .inl (T 0, 12, .inl (fun _ => 0))), (a2, .inl (T 5, 1, .inr (.inl (fun _ => 0))))] sz) t)) (va_A [(a1, .inr (16, [.ref a3, .ref a4, .ref a5, .ref a6, .ref a7, .ref a8, .ref a9, .ref a10, .ref a11, .ref a12])), (a3, .inr (10, [.ref a13, .ref a14, .ref a15, .ref a16, .ref a17, .int 0, .int 0])), (a5, .inr (8, [.ref a19, .ref a20, .int 0, .int (-1)])), (a20, .inl (T 0, 12, .inl (fun _ => 0))), (a8, .inr (14, [.ref a25, .int 0, .int 0])), (a25, .inr (13, [.ref a26, .int 0])), (a26, .inl (T 0, 12, .inl (fun _ => 0))), (a2, .inl (T 5, 1, .inr (.inl (fun _ => 0))))] sz)) 1 6 (va_A [(a1, .inr (16, [.ref a3, .ref a4, .ref a5, .ref a6, .ref a7, .ref a8, .ref a9, .ref a10, .ref a11, .ref a12])), (a3, .inr (10, [.ref a13, .ref a14, .ref a15, .ref a16, .ref a17, .int 0, .int 0])), (a5, .inr (8, [.ref a19, .ref a20, .int 0, .int (-1)])), (a20, .inl (T 0, 12, .inl (fun _ => 0))), (a8, .inr (14, [.ref a25, .int 0, .int 0])), (a25, .inr (13, [.ref a26, .int 0])), (a26, .inl (T 0, 12, .inl (fun _ => 0))), (a2, .inl (T 5, 1, .inr (.inl (fun _ => 0))))] sz) := by
  refine va_MetW (cc := cL_countParts) (maxL := 4) (ret := (some .int)) (hh := [(0, 9, 12, 13)]) (by decide +kernel) rfl ?_
  intro p e s m args below meth c s₁ B hml hv
  obtain ⟨rfl, hsz, hP, hK, hD0, hG⟩ := hv
  have hx := B.exec
  have hb := B.bytes
  have hr := B.returns
  have hts := atoms_spec (ws := wsL_countParts) B.pre
  have hown : s.vm.findClass RL = some m.cls := findClass_of_methodNamed B.named
  have hlocks := B.notSynchronized
  have htab := vx_table (x := yL_countParts) B (hts (.codeWith yL_countParts cL_countParts 4 (some .int) [(0, 9, 12, 13)]) (by decide +kernel))
  subst hsz
  have hD := hD0.self (sz := s.heap.size)
  generalize hAe : va_A [(a1, .inr (16, [.ref a3, .ref a4, .ref a5, .ref a6, .ref a7, .ref a8, .ref a9, .ref a10, .ref a11, .ref a12])), (a3, .inr (10, [.ref a13, .ref a14, .ref a15, .ref a16, .ref a17, .int 0, .int 0])), (a5, .inr (8, [.ref a19, .ref a20, .int 0, .int (-1)])), (a20, .inl (T 0, 12, .inl (fun _ => 0))), (a8, .inr (14, [.ref a25, .int 0, .int 0])), (a25, .inr (13, [.ref a26, .int 0])), (a26, .inl (T 0, 12, .inl (fun _ => 0))), (a2, .inl (T 5, 1, .inr (.inl (fun _ => 0))))] s.heap.size = A at hD hG ⊢
  have hA : ∀ q : Nat, s.heap.size ≤ q → A q := fun q h => by rw [← hAe]; exact Or.inr h
  have hS : va_S A s.heap s.heap [] := va_S.rf
  have hl := lv_entry ([.ref a1, .int p1, .ref a2]) (n := 4) (Nat.le_of_ble_eq_true rfl)
  rw [lg_entry_eq]
  generalize (lg_sl ([.ref a1, .int p1, .ref a2]) ++ List.replicate (4 - (lg_sl ([.ref a1, .int p1, .ref a2])).length) Slot.unset).toArray = ls at hl ⊢
  have hl : lv_has ls 4 [(0, .ref a1), (1, .int p1), (2, .ref a2)] := hl
  refine lv_aload_n hx hb dL_countParts_0 rfl (lv_at hl 2 rfl) ?_
  refine lv_iconst (v := 0) hx hb dL_countParts_1 (by decide) ?_
  refine lv_aload_n hx hb dL_countParts_2 rfl (lv_at hl 0 rfl) ?_
  refine lv_iload_n hx hb dL_countParts_3 rfl (lv_at hl 1 rfl) ?_
  have hPc := hP.sub (ws' := [(a1, .inr (16, [.ref a3, .ref a4, .ref a5, .ref a6, .ref a7, .ref a8, .ref a9, .ref a10, .ref a11, .ref a12])), (a3, .inr (10, [.ref a13, .ref a14, .ref a15, .ref a16, .ref a17, .int 0, .int 0])), (a5, .inr (8, [.ref a19, .ref a20, .int 0, .int (-1)])), (a20, .inl (T 0, 12, .inl (fun _ => 0))), (a8, .inr (14, [.ref a25, .int 0, .int 0])), (a25, .inr (13, [.ref a26, .int 0])), (a26, .inl (T 0, 12, .inl (fun _ => 0)))]) [0, 1, 2, 3, 4, 5, 6] rfl
  have hDc := hD.sub (ws' := [(a1, .inr (16, [.ref a3, .ref a4, .ref a5, .ref a6, .ref a7, .ref a8, .ref a9, .ref a10, .ref a11, .ref a12])), (a3, .inr (10, [.ref a13, .ref a14, .ref a15, .ref a16, .ref a17, .int 0, .int 0])), (a5, .inr (8, [.ref a19, .ref a20, .int 0, .int (-1)])), (a20, .inl (T 0, 12, .inl (fun _ => 0))), (a8, .inr (14, [.ref a25, .int 0, .int 0])), (a25, .inr (13, [.ref a26, .int 0])), (a26, .inl (T 0, 12, .inl (fun _ => 0)))]) [0, 1, 2, 3, 4, 5, 6] (by decide) rfl
  have hFc := va_free (wc := [(a1, .inr (16, [.ref a3, .ref a4, .ref a5, .ref a6, .ref a7, .ref a8, .ref a9, .ref a10, .ref a11, .ref a12])), (a3, .inr (10, [.ref a13, .ref a14, .ref a15, .ref a16, .ref a17, .int 0, .int 0])), (a5, .inr (8, [.ref a19, .ref a20, .int 0, .int (-1)])), (a20, .inl (T 0, 12, .inl (fun _ => 0))), (a8, .inr (14, [.ref a25, .int 0, .int 0])), (a25, .inr (13, [.ref a26, .int 0])), (a26, .inl (T 0, 12, .inl (fun _ => 0)))]) hD hS hA [0, 1, 2, 3, 4, 5, 6] rfl
  refine vx_calli (vx_runV (As := [.int p1]) (rest := [.int 0, .ref a2]) ⟨hx, hb, hml, hown, hts⟩ (xcX11_countParts l hst dC dI T a1 a3 a4 a5 a6 a7 a8 a9 a10 a11 a12 a13 a14 a15 a16 a17 a19 a20 a25 a26 s.heap.size p1) (cwV 1 hts gL_countParts_X11_countParts rfl rfl rfl (by decide +kernel) ⟨Nat.le_of_ble_eq_true rfl, Nat.le_of_ble_eq_true rfl⟩) ⟨xBlind, va_recv hK hPc (ci := 16) (q0 := 0) rfl rfl, xCall hK hG hS hPc hDc hFc⟩ rfl rfl hl.1 rfl (lv_room (Nat.le_of_ble_eq_true rfl)) dL_countParts_4 ⟨Nat.le_of_ble_eq_true rfl, Nat.le_of_ble_eq_true rfl⟩) hS (fun q _ h => hFc q h) hFc (fun q _ h => hFc q h) (fun E ce q9 u t H locs ht hvm hw hB hz1 hk1 hS hce hcv hcl => ?_) (fun r_9 u t H locs ht hvm hw hB hz1 hk1 hS => ?_)
  · rcases hB with ⟨c_1, hE, hP1, hD1⟩
    have hz_2 : ((99999) : Int32).toInt = 99999 := by decide +kernel
    subst hE
    rw [ht] at hP1
    obtain ⟨hP, hD⟩ := va_join (wr := [(a2, .inl (T 5, 1, .inr (.inl (fun _ => 0))))]) (w1 := []) hP hD [0, 1, 2, 3, 4, 5, 6] [7] rfl rfl (by decide) (by decide) hk1 hFc hP1 hD1
    have hP : va_P (dC, dI) vwCl [(a2, .inl (T 5, 1, .inr (.inl (fun _ => 0))))] H := hP
    have hD : va_D A [(a2, .inl (T 5, 1, .inr (.inl (fun _ => 0))))] := hD
    clear hPc hDc hFc hP1 hD1 hk1 hz1 ht hvm
    refine vx_catch (E := "java/lang/IllegalArgumentException") (name := "java/lang/IllegalArgumentException") hown [] ⟨0, 9, 12, 13⟩ [] (htab.trans rfl) (fun _ h => absurd h List.not_mem_nil) (by decide) (by decide) (hts (.classLink RL 13 "java/lang/IllegalArgumentException") (by decide +kernel)) (xBad_use hG.2.2.2.1 _ (by decide +kernel)) hce hcv hcl ?_
    refine lv_astore_n (lv' := [(3, .ref q9), (0, .ref a1), (1, .int p1), (2, .ref a2)]) hx hb dL_countParts_12 rfl hl (by decide) rfl (fun ls hl => ?_)
    refine lv_iconst (v := 1) hx hb dL_countParts_13 (by decide) ?_
    have hP9 := hP.sub (ws' := [(a2, .inl (T 5, 1, .inr (.inl (fun _ => 0))))]) [0] rfl
    have hD9 := hD.sub (ws' := [(a2, .inl (T 5, 1, .inr (.inl (fun _ => 0))))]) [0] (by decide) rfl
    exact W.iret (v := 1) hx hb hr (fun t ht hW => ⟨⟨_, _, rfl, rfl, (Or.inl ⟨c_1, rfl, by rw [ht]; exact hP9, hD9⟩)⟩, hS.F ht⟩) hS.2.2 dL_countParts_14
  · subst hw
    rcases hB with ⟨c_3, hr_9, hP1, hD1⟩
    have hz_4 : ((99999) : Int32).toInt = 99999 := by decide +kernel
    rw [ht] at hP1
    subst hr_9
    obtain ⟨hP, hD⟩ := va_join (wr := [(a2, .inl (T 5, 1, .inr (.inl (fun _ => 0))))]) (w1 := []) hP hD [0, 1, 2, 3, 4, 5, 6] [7] rfl rfl (by decide) (by decide) hk1 hFc hP1 hD1
    have hP : va_P (dC, dI) vwCl [(a2, .inl (T 5, 1, .inr (.inl (fun _ => 0))))] H := hP
    have hD : va_D A [(a2, .inl (T 5, 1, .inr (.inl (fun _ => 0))))] := hD
    clear hPc hDc hFc hP1 hD1 hk1 hz1 ht hvm
    refine lv_i2l (v := 0) hx hb dL_countParts_7 (by decide) ?_
    refine va_last hx hb hK hP hD hS 0 5 rfl rfl (show vp_in 0 1 by unfold vp_in; decide) dL_countParts_8 (fun H locs hP hD hS => ?_)
    have hP : va_P (dC, dI) vwCl [(a2, .inl (T 5, 1, .inr (.inl (vp_updL (fun _ => 0) (0 : Int32).toNatClampNeg 0))))] H := hP
    have hD : va_D A [(a2, .inl (T 5, 1, .inr (.inl (vp_updL (fun _ => 0) (0 : Int32).toNatClampNeg 0))))] := hD
    refine lv_goto (tgt := 15) hx hb dL_countParts_9 (by decide) ?_
    refine lv_iconst (v := 0) hx hb dL_countParts_15 (by decide) ?_
    have hP9 := hP.sub (ws' := [(a2, .inl (T 5, 1, .inr (.inl (vp_updL (fun _ => 0) (0 : Int32).toNatClampNeg 0))))]) [0] rfl
    have hD9 := hD.sub (ws' := [(a2, .inl (T 5, 1, .inr (.inl (vp_updL (fun _ => 0) (0 : Int32).toNatClampNeg 0))))]) [0] (by decide) rfl
    exact W.iret (v := 0) hx hb hr (fun t ht hW => ⟨⟨_, _, rfl, rfl, (Or.inr (⟨c_3, rfl, by rw [ht]; exact hP9, hD9⟩))⟩, hS.F ht⟩) hS.2.2 dL_countParts_16
set_option maxHeartbeats 4000000 in
set_option maxRecDepth 100000 in
theorem xcX11_countSeen (l : Launch) (hst : l.stackTraces = false) (dC : Nat → ClassId) (dI : Nat → Nat → Nat) (T : Nat → ClassId) (a1 : Nat) (a2 : Nat) (a3 : Nat) (a4 : Nat) (a5 : Nat) (a6 : Nat) (a7 : Nat) (a8 : Nat) (a9 : Nat) (a10 : Nat) (a11 : Nat) (a12 : Nat) (a13 : Nat) (a14 : Nat) (a15 : Nat) (a16 : Nat) (sz : Nat) (p1 : Int32) : vx_Met l yX11_countSeen wsX11_countSeen ({ frames := 7, cells := 1, slots := 6, locals := 103 } : Room) (va_Pc [.ref a1, .int p1] (fun U => xB dC dI T [(a1, .inr (16, [.ref a2, .ref a3, .ref a4, .ref a5, .ref a6, .ref a7, .ref a8, .ref a9, .ref a10, .ref a11])), (a2, .inr (10, [.ref a12, .ref a13, .ref a14, .ref a15, .ref a16, .int 0, .int 0]))] sz U)) (va_Qi (fun (r u : Int32) => r = u) (fun (u : Int32) (t : State) => False) (va_A [(a1, .inr (16, [.ref a2, .ref a3, .ref a4, .ref a5, .ref a6, .ref a7, .ref a8, .ref a9, .ref a10, .ref a11])), (a2, .inr (10, [.ref a12, .ref a13, .ref a14, .ref a15, .ref a16, .int 0, .int 0]))] sz)) (vx_X (fun _ : Unit => True) (fun (E : String) (_ : Unit) (t : State) => E = "java/lang/IndexOutOfBoundsException" ∧ xE dC dI [] (va_A [(a1, .inr (16, [.ref a2, .ref a3, .ref a4, .ref a5, .ref a6, .ref a7, .ref a8, .ref a9, .ref a10, .ref a11])), (a2, .inr (10, [.ref a12, .ref a13, .ref a14, .ref a15, .ref a16, .int 0, .int 0]))] sz) t) (va_A [(a1, .inr (16, [.ref a2, .ref a3, .ref a4, .ref a5, .ref a6, .ref a7, .ref a8, .ref a9, .ref a10, .ref a11])), (a2, .inr (10, [.ref a12, .ref a13, .ref a14, .ref a15, .ref a16, .int 0, .int 0]))] sz)) 1 6 (va_A [(a1, .inr (16, [.ref a2, .ref a3, .ref a4, .ref a5, .ref a6, .ref a7, .ref a8, .ref a9, .ref a10, .ref a11])), (a2, .inr (10, [.ref a12, .ref a13, .ref a14, .ref a15, .ref a16, .int 0, .int 0]))] sz) := by
  refine vx_ofW (cc := cX11_countSeen) (maxL := 2) (ret := (some .int)) (by decide +kernel) rfl ?_
  intro p e s m args below meth c s₁ B hml hex hv
  obtain ⟨rfl, hsz, hP, hK, hD0, hG⟩ := hv
  have hx := B.exec
  have hb := B.bytes
  have hr := B.returns
  have hts := atoms_spec (ws := wsX11_countSeen) B.pre
  have hown : s.vm.findClass RX11 = some m.cls := findClass_of_methodNamed B.named
  have hlocks := B.notSynchronized
  subst hsz
  have hD := hD0.self (sz := s.heap.size)
  generalize hAe : va_A [(a1, .inr (16, [.ref a2, .ref a3, .ref a4, .ref a5, .ref a6, .ref a7, .ref a8, .ref a9, .ref a10, .ref a11])), (a2, .inr (10, [.ref a12, .ref a13, .ref a14, .ref a15, .ref a16, .int 0, .int 0]))] s.heap.size = A at hD hG ⊢
  have hA : ∀ q : Nat, s.heap.size ≤ q → A q := fun q h => by rw [← hAe]; exact Or.inr h
  have hS : va_S A s.heap s.heap [] := va_S.rf
  have hl := lv_entry ([.ref a1, .int p1]) (n := 2) (Nat.le_of_ble_eq_true rfl)
  rw [lg_entry_eq]
  generalize (lg_sl ([.ref a1, .int p1]) ++ List.replicate (2 - (lg_sl ([.ref a1, .int p1])).length) Slot.unset).toArray = ls at hl ⊢
  have hl : lv_has ls 2 [(0, .ref a1), (1, .int p1)] := hl
  refine lv_aload_n hx hb dX11_countSeen_0 rfl (lv_at hl 0 rfl) ?_
  refine lv_iload_n hx hb dX11_countSeen_1 rfl (lv_at hl 1 rfl) ?_
  have hPc := hP.sub (ws' := [(a1, .inr (16, [.ref a2, .ref a3, .ref a4, .ref a5, .ref a6, .ref a7, .ref a8, .ref a9, .ref a10, .ref a11])), (a2, .inr (10, [.ref a12, .ref a13, .ref a14, .ref a15, .ref a16, .int 0, .int 0]))]) [0, 1] rfl
  have hDc := hD.sub (ws' := [(a1, .inr (16, [.ref a2, .ref a3, .ref a4, .ref a5, .ref a6, .ref a7, .ref a8, .ref a9, .ref a10, .ref a11])), (a2, .inr (10, [.ref a12, .ref a13, .ref a14, .ref a15, .ref a16, .int 0, .int 0]))]) [0, 1] (by decide) rfl
  have hFc := va_free (wc := [(a1, .inr (16, [.ref a2, .ref a3, .ref a4, .ref a5, .ref a6, .ref a7, .ref a8, .ref a9, .ref a10, .ref a11])), (a2, .inr (10, [.ref a12, .ref a13, .ref a14, .ref a15, .ref a16, .int 0, .int 0]))]) hD hS hA [0, 1] rfl
  refine vx_callv (vx_runV (As := [.int p1]) (rest := []) ⟨hx, hb, hml, hown, hts⟩ (xcX11_needPoint l hst dC dI T a1 a2 a3 a4 a5 a6 a7 a8 a9 a10 a11 a12 a13 a14 a15 a16 s.heap.size p1) (cwV 1 hts gX11_countSeen_X11_needPoint rfl rfl rfl (by decide +kernel) ⟨Nat.le_of_ble_eq_true rfl, Nat.le_of_ble_eq_true rfl⟩) ⟨xBlind, va_recv hK hPc (ci := 16) (q0 := 0) rfl rfl, xCall hK hG hS hPc hDc hFc⟩ rfl rfl hl.1 rfl (lv_room (Nat.le_of_ble_eq_true rfl)) dX11_countSeen_2 ⟨Nat.le_of_ble_eq_true rfl, Nat.le_of_ble_eq_true rfl⟩) hS (fun q _ h => hFc q h) hFc (fun q _ h => hFc q h) (fun E ce q9 u t H locs ht hvm hw hB hz1 hk1 hS hce hcv hcl => ?_) (fun u t H locs ht hvm hw hB hz1 hk1 hS => ?_)
  · rcases hB with ⟨hE, hP1, hD1⟩
    subst hE
    rw [ht] at hP1
    obtain ⟨hP, hD⟩ := va_join (wr := []) (w1 := [(a1, .inr (16, [.ref a2, .ref a3, .ref a4, .ref a5, .ref a6, .ref a7, .ref a8, .ref a9, .ref a10, .ref a11])), (a2, .inr (10, [.ref a12, .ref a13, .ref a14, .ref a15, .ref a16, .int 0, .int 0]))]) hP hD [0, 1] [] rfl rfl (by decide) (by decide) hk1 hFc hP1 hD1
    have hP : va_P (dC, dI) vwCl [(a1, .inr (16, [.ref a2, .ref a3, .ref a4, .ref a5, .ref a6, .ref a7, .ref a8, .ref a9, .ref a10, .ref a11])), (a2, .inr (10, [.ref a12, .ref a13, .ref a14, .ref a15, .ref a16, .int 0, .int 0]))] H := hP
    have hD : va_D A [(a1, .inr (16, [.ref a2, .ref a3, .ref a4, .ref a5, .ref a6, .ref a7, .ref a8, .ref a9, .ref a10, .ref a11])), (a2, .inr (10, [.ref a12, .ref a13, .ref a14, .ref a15, .ref a16, .int 0, .int 0]))] := hD
    clear hPc hDc hFc hP1 hD1 hk1 hz1 ht hvm
    have hP9 := hP.sub (ws' := []) [] rfl
    have hD9 := hD.sub (ws' := []) [] (by decide) rfl
    exact vx_out (fun x hx => absurd (hex x hx) id) hlocks hce hcv hcl (fun t ht _ => ⟨(), trivial, ⟨rfl, by rw [ht]; exact hP9, hD9⟩, hS.F ht⟩) hS.2.2 (Nat.le_of_ble_eq_true rfl) (Nat.le_of_ble_eq_true rfl)
  · exact absurd hB id
set_option maxHeartbeats 4000000 in
set_option maxRecDepth 100000 in
theorem xcL_countSeen (l : Launch) (hst : l.stackTraces = false) (dC : Nat → ClassId) (dI : Nat → Nat → Nat) (T : Nat → ClassId) (a1 : Nat) (a2 : Nat) (a3 : Nat) (a4 : Nat) (a5 : Nat) (a6 : Nat) (a7 : Nat) (a8 : Nat) (a9 : Nat) (a10 : Nat) (a11 : Nat) (a12 : Nat) (a13 : Nat) (a14 : Nat) (a15 : Nat) (a16 : Nat) (a17 : Nat) (sz : Nat) (p1 : Int32) : Met l yL_countSeen wsL_countSeen ({ frames := 8, cells := 1, slots := 6, locals := 124 } : Room) (va_Pc [.ref a1, .int p1, .ref a2] (fun U => xB dC dI T [(a1, .inr (16, [.ref a3, .ref a4, .ref a5, .ref a6, .ref a7, .ref a8, .ref a9, .ref a10, .ref a11, .ref a12])), (a3, .inr (10, [.ref a13, .ref a14, .ref a15, .ref a16, .ref a17, .int 0, .int 0]))] sz U)) (va_Qi (fun (r u : Int32) => r = u) (fun (u : Int32) (t : State) => 1 = u ∧ xE dC dI [] (va_A [(a1, .inr (16, [.ref a3, .ref a4, .ref a5, .ref a6, .ref a7, .ref a8, .ref a9, .ref a10, .ref a11, .ref a12])), (a3, .inr (10, [.ref a13, .ref a14, .ref a15, .ref a16, .ref a17, .int 0, .int 0]))] sz) t) (va_A [(a1, .inr (16, [.ref a3, .ref a4, .ref a5, .ref a6, .ref a7, .ref a8, .ref a9, .ref a10, .ref a11, .ref a12])), (a3, .inr (10, [.ref a13, .ref a14, .ref a15, .ref a16, .ref a17, .int 0, .int 0]))] sz)) 1 6 (va_A [(a1, .inr (16, [.ref a3, .ref a4, .ref a5, .ref a6, .ref a7, .ref a8, .ref a9, .ref a10, .ref a11, .ref a12])), (a3, .inr (10, [.ref a13, .ref a14, .ref a15, .ref a16, .ref a17, .int 0, .int 0]))] sz) := by
  refine va_MetW (cc := cL_countSeen) (maxL := 4) (ret := (some .int)) (hh := [(0, 9, 12, 23)]) (by decide +kernel) rfl ?_
  intro p e s m args below meth c s₁ B hml hv
  obtain ⟨rfl, hsz, hP, hK, hD0, hG⟩ := hv
  have hx := B.exec
  have hb := B.bytes
  have hr := B.returns
  have hts := atoms_spec (ws := wsL_countSeen) B.pre
  have hown : s.vm.findClass RL = some m.cls := findClass_of_methodNamed B.named
  have hlocks := B.notSynchronized
  have htab := vx_table (x := yL_countSeen) B (hts (.codeWith yL_countSeen cL_countSeen 4 (some .int) [(0, 9, 12, 23)]) (by decide +kernel))
  subst hsz
  have hD := hD0.self (sz := s.heap.size)
  generalize hAe : va_A [(a1, .inr (16, [.ref a3, .ref a4, .ref a5, .ref a6, .ref a7, .ref a8, .ref a9, .ref a10, .ref a11, .ref a12])), (a3, .inr (10, [.ref a13, .ref a14, .ref a15, .ref a16, .ref a17, .int 0, .int 0]))] s.heap.size = A at hD hG ⊢
  have hA : ∀ q : Nat, s.heap.size ≤ q → A q := fun q h => by rw [← hAe]; exact Or.inr h
  have hS : va_S A s.heap s.heap [] := va_S.rf
  have hl := lv_entry ([.ref a1, .int p1, .ref a2]) (n := 4) (Nat.le_of_ble_eq_true rfl)
  rw [lg_entry_eq]
  generalize (lg_sl ([.ref a1, .int p1, .ref a2]) ++ List.replicate (4 - (lg_sl ([.ref a1, .int p1, .ref a2])).length) Slot.unset).toArray = ls at hl ⊢
  have hl : lv_has ls 4 [(0, .ref a1), (1, .int p1), (2, .ref a2)] := hl
  refine lv_aload_n hx hb dL_countSeen_0 rfl (lv_at hl 2 rfl) ?_
  refine lv_iconst (v := 0) hx hb dL_countSeen_1 (by decide) ?_
  refine lv_aload_n hx hb dL_countSeen_2 rfl (lv_at hl 0 rfl) ?_
  refine lv_iload_n hx hb dL_countSeen_3 rfl (lv_at hl 1 rfl) ?_
  have hPc := hP.sub (ws' := [(a1, .inr (16, [.ref a3, .ref a4, .ref a5, .ref a6, .ref a7, .ref a8, .ref a9, .ref a10, .ref a11, .ref a12])), (a3, .inr (10, [.ref a13, .ref a14, .ref a15, .ref a16, .ref a17, .int 0, .int 0]))]) [0, 1] rfl
  have hDc := hD.sub (ws' := [(a1, .inr (16, [.ref a3, .ref a4, .ref a5, .ref a6, .ref a7, .ref a8, .ref a9, .ref a10, .ref a11, .ref a12])), (a3, .inr (10, [.ref a13, .ref a14, .ref a15, .ref a16, .ref a17, .int 0, .int 0]))]) [0, 1] (by decide) rfl
  have hFc := va_free (wc := [(a1, .inr (16, [.ref a3, .ref a4, .ref a5, .ref a6, .ref a7, .ref a8, .ref a9, .ref a10, .ref a11, .ref a12])), (a3, .inr (10, [.ref a13, .ref a14, .ref a15, .ref a16, .ref a17, .int 0, .int 0]))]) hD hS hA [0, 1] rfl
  refine vx_calli (vx_runV (As := [.int p1]) (rest := [.int 0, .ref a2]) ⟨hx, hb, hml, hown, hts⟩ (xcX11_countSeen l hst dC dI T a1 a3 a4 a5 a6 a7 a8 a9 a10 a11 a12 a13 a14 a15 a16 a17 s.heap.size p1) (cwV 1 hts gL_countSeen_X11_countSeen rfl rfl rfl (by decide +kernel) ⟨Nat.le_of_ble_eq_true rfl, Nat.le_of_ble_eq_true rfl⟩) ⟨xBlind, va_recv hK hPc (ci := 16) (q0 := 0) rfl rfl, xCall hK hG hS hPc hDc hFc⟩ rfl rfl hl.1 rfl (lv_room (Nat.le_of_ble_eq_true rfl)) dL_countSeen_4 ⟨Nat.le_of_ble_eq_true rfl, Nat.le_of_ble_eq_true rfl⟩) hS (fun q _ h => hFc q h) hFc (fun q _ h => hFc q h) (fun E ce q9 u t H locs ht hvm hw hB hz1 hk1 hS hce hcv hcl => ?_) (fun r_9 u t H locs ht hvm hw hB hz1 hk1 hS => ?_)
  · rcases hB with ⟨hE, hP1, hD1⟩
    subst hE
    rw [ht] at hP1
    obtain ⟨hP, hD⟩ := va_join (wr := []) (w1 := []) hP hD [0, 1] [] rfl rfl (by decide) (by decide) hk1 hFc hP1 hD1
    have hP : va_P (dC, dI) vwCl [] H := hP
    have hD : va_D A [] := hD
    clear hPc hDc hFc hP1 hD1 hk1 hz1 ht hvm
    refine vx_catch (E := "java/lang/IndexOutOfBoundsException") (name := "java/lang/IndexOutOfBoundsException") hown [] ⟨0, 9, 12, 23⟩ [] (htab.trans rfl) (fun _ h => absurd h List.not_mem_nil) (by decide) (by decide) (hts (.classLink RL 23 "java/lang/IndexOutOfBoundsException") (by decide +kernel)) (xBad_use hG.2.2.2.1 _ (by decide +kernel)) hce hcv hcl ?_
    refine lv_astore_n (lv' := [(3, .ref q9), (0, .ref a1), (1, .int p1), (2, .ref a2)]) hx hb dL_countSeen_12 rfl hl (by decide) rfl (fun ls hl => ?_)
    refine lv_iconst (v := 1) hx hb dL_countSeen_13 (by decide) ?_
    have hP9 := hP.sub (ws' := []) [] rfl
    have hD9 := hD.sub (ws' := []) [] (by decide) rfl
    exact W.iret (v := 1) hx hb hr (fun t ht hW => ⟨⟨_, _, rfl, rfl, ⟨rfl, by rw [ht]; exact hP9, hD9⟩⟩, hS.F ht⟩) hS.2.2 dL_countSeen_14
  · exact absurd hB id
set_option maxHeartbeats 4000000 in
set_option maxRecDepth 100000 in
theorem xcX11_depth (l : Launch) (hst : l.stackTraces = false) (dC : Nat → ClassId) (dI : Nat → Nat → Nat) (T : Nat → ClassId) (a1 : Nat) (a2 : Nat) (a3 : Nat) (a4 : Nat) (a5 : Nat) (a6 : Nat) (a7 : Nat) (a8 : Nat) (a9 : Nat) (a10 : Nat) (a11 : Nat) (a12 : Nat) (a13 : Nat) (a14 : Nat) (a15 : Nat) (a16 : Nat) (sz : Nat) (p1 : Int32) : vx_Met l yX11_depth wsX11_depth ({ frames := 7, cells := 1, slots := 6, locals := 103 } : Room) (va_Pc [.ref a1, .int p1] (fun U => xB dC dI T [(a1, .inr (16, [.ref a2, .ref a3, .ref a4, .ref a5, .ref a6, .ref a7, .ref a8, .ref a9, .ref a10, .ref a11])), (a2, .inr (10, [.ref a12, .ref a13, .ref a14, .ref a15, .ref a16, .int 0, .int 0]))] sz U)) (va_Qi (fun (r u : Int32) => r = u) (fun (u : Int32) (t : State) => False) (va_A [(a1, .inr (16, [.ref a2, .ref a3, .ref a4, .ref a5, .ref a6, .ref a7, .ref a8, .ref a9, .ref a10, .ref a11])), (a2, .inr (10, [.ref a12, .ref a13, .ref a14, .ref a15, .ref a16, .int 0, .int 0]))] sz)) (vx_X (fun _ : Unit => True) (fun (E : String) (_ : Unit) (t : State) => E = "java/lang/IndexOutOfBoundsException" ∧ xE dC dI [] (va_A [(a1, .inr (16, [.ref a2, .ref a3, .ref a4, .ref a5, .ref a6, .ref a7, .ref a8, .ref a9, .ref a10, .ref a11])), (a2, .inr (10, [.ref a12, .ref a13, .ref a14, .ref a15, .ref a16, .int 0, .int 0]))] sz) t) (va_A [(a1, .inr (16, [.ref a2, .ref a3, .ref a4, .ref a5, .ref a6, .ref a7, .ref a8, .ref a9, .ref a10, .ref a11])), (a2, .inr (10, [.ref a12, .ref a13, .ref a14, .ref a15, .ref a16, .int 0, .int 0]))] sz)) 1 6 (va_A [(a1, .inr (16, [.ref a2, .ref a3, .ref a4, .ref a5, .ref a6, .ref a7, .ref a8, .ref a9, .ref a10, .ref a11])), (a2, .inr (10, [.ref a12, .ref a13, .ref a14, .ref a15, .ref a16, .int 0, .int 0]))] sz) := by
  refine vx_ofW (cc := cX11_depth) (maxL := 2) (ret := (some .int)) (by decide +kernel) rfl ?_
  intro p e s m args below meth c s₁ B hml hex hv
  obtain ⟨rfl, hsz, hP, hK, hD0, hG⟩ := hv
  have hx := B.exec
  have hb := B.bytes
  have hr := B.returns
  have hts := atoms_spec (ws := wsX11_depth) B.pre
  have hown : s.vm.findClass RX11 = some m.cls := findClass_of_methodNamed B.named
  have hlocks := B.notSynchronized
  subst hsz
  have hD := hD0.self (sz := s.heap.size)
  generalize hAe : va_A [(a1, .inr (16, [.ref a2, .ref a3, .ref a4, .ref a5, .ref a6, .ref a7, .ref a8, .ref a9, .ref a10, .ref a11])), (a2, .inr (10, [.ref a12, .ref a13, .ref a14, .ref a15, .ref a16, .int 0, .int 0]))] s.heap.size = A at hD hG ⊢
  have hA : ∀ q : Nat, s.heap.size ≤ q → A q := fun q h => by rw [← hAe]; exact Or.inr h
  have hS : va_S A s.heap s.heap [] := va_S.rf
  have hl := lv_entry ([.ref a1, .int p1]) (n := 2) (Nat.le_of_ble_eq_true rfl)
  rw [lg_entry_eq]
  generalize (lg_sl ([.ref a1, .int p1]) ++ List.replicate (2 - (lg_sl ([.ref a1, .int p1])).length) Slot.unset).toArray = ls at hl ⊢
  have hl : lv_has ls 2 [(0, .ref a1), (1, .int p1)] := hl
  refine lv_aload_n hx hb dX11_depth_0 rfl (lv_at hl 0 rfl) ?_
  refine lv_iload_n hx hb dX11_depth_1 rfl (lv_at hl 1 rfl) ?_
  have hPc := hP.sub (ws' := [(a1, .inr (16, [.ref a2, .ref a3, .ref a4, .ref a5, .ref a6, .ref a7, .ref a8, .ref a9, .ref a10, .ref a11])), (a2, .inr (10, [.ref a12, .ref a13, .ref a14, .ref a15, .ref a16, .int 0, .int 0]))]) [0, 1] rfl
  have hDc := hD.sub (ws' := [(a1, .inr (16, [.ref a2, .ref a3, .ref a4, .ref a5, .ref a6, .ref a7, .ref a8, .ref a9, .ref a10, .ref a11])), (a2, .inr (10, [.ref a12, .ref a13, .ref a14, .ref a15, .ref a16, .int 0, .int 0]))]) [0, 1] (by decide) rfl
  have hFc := va_free (wc := [(a1, .inr (16, [.ref a2, .ref a3, .ref a4, .ref a5, .ref a6, .ref a7, .ref a8, .ref a9, .ref a10, .ref a11])), (a2, .inr (10, [.ref a12, .ref a13, .ref a14, .ref a15, .ref a16, .int 0, .int 0]))]) hD hS hA [0, 1] rfl
  refine vx_callv (vx_runV (As := [.int p1]) (rest := []) ⟨hx, hb, hml, hown, hts⟩ (xcX11_needPoint l hst dC dI T a1 a2 a3 a4 a5 a6 a7 a8 a9 a10 a11 a12 a13 a14 a15 a16 s.heap.size p1) (cwV 1 hts gX11_depth_X11_needPoint rfl rfl rfl (by decide +kernel) ⟨Nat.le_of_ble_eq_true rfl, Nat.le_of_ble_eq_true rfl⟩) ⟨xBlind, va_recv hK hPc (ci := 16) (q0 := 0) rfl rfl, xCall hK hG hS hPc hDc hFc⟩ rfl rfl hl.1 rfl (lv_room (Nat.le_of_ble_eq_true rfl)) dX11_depth_2 ⟨Nat.le_of_ble_eq_true rfl, Nat.le_of_ble_eq_true rfl⟩) hS (fun q _ h => hFc q h) hFc (fun q _ h => hFc q h) (fun E ce q9 u t H locs ht hvm hw hB hz1 hk1 hS hce hcv hcl => ?_) (fun u t H locs ht hvm hw hB hz1 hk1 hS => ?_)
  · rcases hB with ⟨hE, hP1, hD1⟩
    subst hE
    rw [ht] at hP1
    obtain ⟨hP, hD⟩ := va_join (wr := []) (w1 := [(a1, .inr (16, [.ref a2, .ref a3, .ref a4, .ref a5, .ref a6, .ref a7, .ref a8, .ref a9, .ref a10, .ref a11])), (a2, .inr (10, [.ref a12, .ref a13, .ref a14, .ref a15, .ref a16, .int 0, .int 0]))]) hP hD [0, 1] [] rfl rfl (by decide) (by decide) hk1 hFc hP1 hD1
    have hP : va_P (dC, dI) vwCl [(a1, .inr (16, [.ref a2, .ref a3, .ref a4, .ref a5, .ref a6, .ref a7, .ref a8, .ref a9, .ref a10, .ref a11])), (a2, .inr (10, [.ref a12, .ref a13, .ref a14, .ref a15, .ref a16, .int 0, .int 0]))] H := hP
    have hD : va_D A [(a1, .inr (16, [.ref a2, .ref a3, .ref a4, .ref a5, .ref a6, .ref a7, .ref a8, .ref a9, .ref a10, .ref a11])), (a2, .inr (10, [.ref a12, .ref a13, .ref a14, .ref a15, .ref a16, .int 0, .int 0]))] := hD
    clear hPc hDc hFc hP1 hD1 hk1 hz1 ht hvm
    have hP9 := hP.sub (ws' := []) [] rfl
    have hD9 := hD.sub (ws' := []) [] (by decide) rfl
    exact vx_out (fun x hx => absurd (hex x hx) id) hlocks hce hcv hcl (fun t ht _ => ⟨(), trivial, ⟨rfl, by rw [ht]; exact hP9, hD9⟩, hS.F ht⟩) hS.2.2 (Nat.le_of_ble_eq_true rfl) (Nat.le_of_ble_eq_true rfl)
  · exact absurd hB id
set_option maxHeartbeats 4000000 in
set_option maxRecDepth 100000 in
theorem xcL_depth (l : Launch) (hst : l.stackTraces = false) (dC : Nat → ClassId) (dI : Nat → Nat → Nat) (T : Nat → ClassId) (a1 : Nat) (a2 : Nat) (a3 : Nat) (a4 : Nat) (a5 : Nat) (a6 : Nat) (a7 : Nat) (a8 : Nat) (a9 : Nat) (a10 : Nat) (a11 : Nat) (a12 : Nat) (a13 : Nat) (a14 : Nat) (a15 : Nat) (a16 : Nat) (a17 : Nat) (sz : Nat) (p1 : Int32) : Met l yL_depth wsL_depth ({ frames := 8, cells := 1, slots := 6, locals := 124 } : Room) (va_Pc [.ref a1, .int p1, .ref a2] (fun U => xB dC dI T [(a1, .inr (16, [.ref a3, .ref a4, .ref a5, .ref a6, .ref a7, .ref a8, .ref a9, .ref a10, .ref a11, .ref a12])), (a3, .inr (10, [.ref a13, .ref a14, .ref a15, .ref a16, .ref a17, .int 0, .int 0]))] sz U)) (va_Qi (fun (r u : Int32) => r = u) (fun (u : Int32) (t : State) => 1 = u ∧ xE dC dI [] (va_A [(a1, .inr (16, [.ref a3, .ref a4, .ref a5, .ref a6, .ref a7, .ref a8, .ref a9, .ref a10, .ref a11, .ref a12])), (a3, .inr (10, [.ref a13, .ref a14, .ref a15, .ref a16, .ref a17, .int 0, .int 0]))] sz) t) (va_A [(a1, .inr (16, [.ref a3, .ref a4, .ref a5, .ref a6, .ref a7, .ref a8, .ref a9, .ref a10, .ref a11, .ref a12])), (a3, .inr (10, [.ref a13, .ref a14, .ref a15, .ref a16, .ref a17, .int 0, .int 0]))] sz)) 1 6 (va_A [(a1, .inr (16, [.ref a3, .ref a4, .ref a5, .ref a6, .ref a7, .ref a8, .ref a9, .ref a10, .ref a11, .ref a12])), (a3, .inr (10, [.ref a13, .ref a14, .ref a15, .ref a16, .ref a17, .int 0, .int 0]))] sz) := by
  refine va_MetW (cc := cL_depth) (maxL := 4) (ret := (some .int)) (hh := [(0, 9, 12, 23)]) (by decide +kernel) rfl ?_
  intro p e s m args below meth c s₁ B hml hv
  obtain ⟨rfl, hsz, hP, hK, hD0, hG⟩ := hv
  have hx := B.exec
  have hb := B.bytes
  have hr := B.returns
  have hts := atoms_spec (ws := wsL_depth) B.pre
  have hown : s.vm.findClass RL = some m.cls := findClass_of_methodNamed B.named
  have hlocks := B.notSynchronized
  have htab := vx_table (x := yL_depth) B (hts (.codeWith yL_depth cL_depth 4 (some .int) [(0, 9, 12, 23)]) (by decide +kernel))
  subst hsz
  have hD := hD0.self (sz := s.heap.size)
  generalize hAe : va_A [(a1, .inr (16, [.ref a3, .ref a4, .ref a5, .ref a6, .ref a7, .ref a8, .ref a9, .ref a10, .ref a11, .ref a12])), (a3, .inr (10, [.ref a13, .ref a14, .ref a15, .ref a16, .ref a17, .int 0, .int 0]))] s.heap.size = A at hD hG ⊢
  have hA : ∀ q : Nat, s.heap.size ≤ q → A q := fun q h => by rw [← hAe]; exact Or.inr h
  have hS : va_S A s.heap s.heap [] := va_S.rf
  have hl := lv_entry ([.ref a1, .int p1, .ref a2]) (n := 4) (Nat.le_of_ble_eq_true rfl)
  rw [lg_entry_eq]
  generalize (lg_sl ([.ref a1, .int p1, .ref a2]) ++ List.replicate (4 - (lg_sl ([.ref a1, .int p1, .ref a2])).length) Slot.unset).toArray = ls at hl ⊢
  have hl : lv_has ls 4 [(0, .ref a1), (1, .int p1), (2, .ref a2)] := hl
  refine lv_aload_n hx hb dL_depth_0 rfl (lv_at hl 2 rfl) ?_
  refine lv_iconst (v := 0) hx hb dL_depth_1 (by decide) ?_
  refine lv_aload_n hx hb dL_depth_2 rfl (lv_at hl 0 rfl) ?_
  refine lv_iload_n hx hb dL_depth_3 rfl (lv_at hl 1 rfl) ?_
  have hPc := hP.sub (ws' := [(a1, .inr (16, [.ref a3, .ref a4, .ref a5, .ref a6, .ref a7, .ref a8, .ref a9, .ref a10, .ref a11, .ref a12])), (a3, .inr (10, [.ref a13, .ref a14, .ref a15, .ref a16, .ref a17, .int 0, .int 0]))]) [0, 1] rfl
  have hDc := hD.sub (ws' := [(a1, .inr (16, [.ref a3, .ref a4, .ref a5, .ref a6, .ref a7, .ref a8, .ref a9, .ref a10, .ref a11, .ref a12])), (a3, .inr (10, [.ref a13, .ref a14, .ref a15, .ref a16, .ref a17, .int 0, .int 0]))]) [0, 1] (by decide) rfl
  have hFc := va_free (wc := [(a1, .inr (16, [.ref a3, .ref a4, .ref a5, .ref a6, .ref a7, .ref a8, .ref a9, .ref a10, .ref a11, .ref a12])), (a3, .inr (10, [.ref a13, .ref a14, .ref a15, .ref a16, .ref a17, .int 0, .int 0]))]) hD hS hA [0, 1] rfl
  refine vx_calli (vx_runV (As := [.int p1]) (rest := [.int 0, .ref a2]) ⟨hx, hb, hml, hown, hts⟩ (xcX11_depth l hst dC dI T a1 a3 a4 a5 a6 a7 a8 a9 a10 a11 a12 a13 a14 a15 a16 a17 s.heap.size p1) (cwV 1 hts gL_depth_X11_depth rfl rfl rfl (by decide +kernel) ⟨Nat.le_of_ble_eq_true rfl, Nat.le_of_ble_eq_true rfl⟩) ⟨xBlind, va_recv hK hPc (ci := 16) (q0 := 0) rfl rfl, xCall hK hG hS hPc hDc hFc⟩ rfl rfl hl.1 rfl (lv_room (Nat.le_of_ble_eq_true rfl)) dL_depth_4 ⟨Nat.le_of_ble_eq_true rfl, Nat.le_of_ble_eq_true rfl⟩) hS (fun q _ h => hFc q h) hFc (fun q _ h => hFc q h) (fun E ce q9 u t H locs ht hvm hw hB hz1 hk1 hS hce hcv hcl => ?_) (fun r_9 u t H locs ht hvm hw hB hz1 hk1 hS => ?_)
  · rcases hB with ⟨hE, hP1, hD1⟩
    subst hE
    rw [ht] at hP1
    obtain ⟨hP, hD⟩ := va_join (wr := []) (w1 := []) hP hD [0, 1] [] rfl rfl (by decide) (by decide) hk1 hFc hP1 hD1
    have hP : va_P (dC, dI) vwCl [] H := hP
    have hD : va_D A [] := hD
    clear hPc hDc hFc hP1 hD1 hk1 hz1 ht hvm
    refine vx_catch (E := "java/lang/IndexOutOfBoundsException") (name := "java/lang/IndexOutOfBoundsException") hown [] ⟨0, 9, 12, 23⟩ [] (htab.trans rfl) (fun _ h => absurd h List.not_mem_nil) (by decide) (by decide) (hts (.classLink RL 23 "java/lang/IndexOutOfBoundsException") (by decide +kernel)) (xBad_use hG.2.2.2.1 _ (by decide +kernel)) hce hcv hcl ?_
    refine lv_astore_n (lv' := [(3, .ref q9), (0, .ref a1), (1, .int p1), (2, .ref a2)]) hx hb dL_depth_12 rfl hl (by decide) rfl (fun ls hl => ?_)
    refine lv_iconst (v := 1) hx hb dL_depth_13 (by decide) ?_
    have hP9 := hP.sub (ws' := []) [] rfl
    have hD9 := hD.sub (ws' := []) [] (by decide) rfl
    exact W.iret (v := 1) hx hb hr (fun t ht hW => ⟨⟨_, _, rfl, rfl, ⟨rfl, by rw [ht]; exact hP9, hD9⟩⟩, hS.F ht⟩) hS.2.2 dL_depth_14
  · exact absurd hB id
set_option maxHeartbeats 4000000 in
set_option maxRecDepth 100000 in
theorem xcX11_needKind (l : Launch) (hst : l.stackTraces = false) (dC : Nat → ClassId) (dI : Nat → Nat → Nat) (T : Nat → ClassId) (sz : Nat) (p0 : Int32) : vx_Met l yX11_needKind wsX11_needKind ({ frames := 6, cells := 1, slots := 6, locals := 82 } : Room) (va_Pc [.int p0] (fun U => xB dC dI T [] sz U)) (va_Qv (fun _ : Unit => True) (fun (_ : Unit) (t : State) => ((p0.toInt = 101) ∨ ((¬ (p0.toInt = 101)) ∧ (p0.toInt = 115)) ∨ ((¬ (p0.toInt = 101)) ∧ (¬ (p0.toInt = 115)) ∧ (p0.toInt = 109)) ∨ ((¬ (p0.toInt = 101)) ∧ (¬ (p0.toInt = 115)) ∧ (¬ (p0.toInt = 109)) ∧ (p0.toInt = 112))) ∧ xE dC dI [] (va_A [] sz) t) (va_A [] sz)) (vx_X (fun _ : Unit => True) (fun (E : String) (_ : Unit) (t : State) => ((¬ (p0.toInt = 101)) ∧ (¬ (p0.toInt = 115)) ∧ (¬ (p0.toInt = 109)) ∧ (¬ (p0.toInt = 112))) ∧ E = "java/lang/IllegalArgumentException" ∧ xE dC dI [] (va_A [] sz) t) (va_A [] sz)) 1 6 (va_A [] sz) := by
  refine vx_ofW (cc := cX11_needKind) (maxL := 1) (ret := none) (by decide +kernel) rfl ?_
  intro p e s m args below meth c s₁ B hml hex hv
  obtain ⟨rfl, hsz, hP, hK, hD0, hG⟩ := hv
  have hx := B.exec
  have hb := B.bytes
  have hr := B.returns
  have hts := atoms_spec (ws := wsX11_needKind) B.pre
  have hown : s.vm.findClass RX11 = some m.cls := findClass_of_methodNamed B.named
  have hlocks := B.notSynchronized
  have hm_214 : ∀ w ∈ (vx_atS RX11 214 "java/lang/IllegalArgumentException" ["java/lang/RuntimeException", "java/lang/Exception"]).filter goodWord, w ∈ wsX11_needKind := by decide +kernel
  have hat_214 : ∀ w ∈ vx_atS RX11 214 "java/lang/IllegalArgumentException" ["java/lang/RuntimeException", "java/lang/Exception"], w.before (#[.int p0] : Array Value) s = true := vx_hat (B := xBad) (fun w hw => hts w (hm_214 w hw)) (by decide +kernel) (xBad_use hG.2.2.2.1)
  subst hsz
  have hD := hD0.self (sz := s.heap.size)
  generalize hAe : va_A [] s.heap.size = A at hD hG ⊢
  have hA : ∀ q : Nat, s.heap.size ≤ q → A q := fun q h => by rw [← hAe]; exact Or.inr h
  have hS : va_S A s.heap s.heap [] := va_S.rf
  have hl := lv_entry ([.int p0]) (n := 1) (Nat.le_of_ble_eq_true rfl)
  rw [lg_entry_eq]
  generalize (lg_sl ([.int p0]) ++ List.replicate (1 - (lg_sl ([.int p0])).length) Slot.unset).toArray = ls at hl ⊢
  have hl : lv_has ls 1 [(0, .int p0)] := hl
  refine lv_iload_n hx hb dX11_needKind_0 rfl (lv_at hl 0 rfl) ?_
  refine lv_bipush (v := 101) hx hb dX11_needKind_1 (by decide) ?_
  refine lv_icmp_eq (tgt := 35) hx hb dX11_needKind_3 (by decide) (fun c_1 => ?_) (fun c_1 => ?_)
  · have nc_1 : p0.toInt = 101 := (xi_eq rfl (by decide +kernel)).mp c_1
    refine vx_ret ?_
    have hP9 := hP.sub (ws' := []) [] rfl
    have hD9 := hD.sub (ws' := []) [] (by decide) rfl
    refine W.widen (k := 1) (n := 6) (Nat.le_of_ble_eq_true rfl) (Nat.le_of_ble_eq_true rfl) ?_
    exact W.vret hx hb hr (fun t ht hW => ⟨⟨(), rfl, trivial, ⟨(Or.inl nc_1), by rw [ht]; exact hP9, hD9⟩⟩, hS.F ht⟩) hS.2.2 dX11_needKind_35
  · have nc_1 : ¬ (p0.toInt = 101) := mt (xi_eq rfl (by decide +kernel)).mpr c_1
    refine lv_iload_n hx hb dX11_needKind_6 rfl (lv_at hl 0 rfl) ?_
    refine lv_bipush (v := 115) hx hb dX11_needKind_7 (by decide) ?_
    refine lv_icmp_eq (tgt := 35) hx hb dX11_needKind_9 (by decide) (fun c_2 => ?_) (fun c_2 => ?_)
    · have nc_2 : p0.toInt = 115 := (xi_eq rfl (by decide +kernel)).mp c_2
      refine vx_ret ?_
      have hP9 := hP.sub (ws' := []) [] rfl
      have hD9 := hD.sub (ws' := []) [] (by decide) rfl
      refine W.widen (k := 1) (n := 6) (Nat.le_of_ble_eq_true rfl) (Nat.le_of_ble_eq_true rfl) ?_
      exact W.vret hx hb hr (fun t ht hW => ⟨⟨(), rfl, trivial, ⟨(Or.inr (Or.inl ⟨nc_1, nc_2⟩)), by rw [ht]; exact hP9, hD9⟩⟩, hS.F ht⟩) hS.2.2 dX11_needKind_35
    · have nc_2 : ¬ (p0.toInt = 115) := mt (xi_eq rfl (by decide +kernel)).mpr c_2
      refine lv_iload_n hx hb dX11_needKind_12 rfl (lv_at hl 0 rfl) ?_
      refine lv_bipush (v := 109) hx hb dX11_needKind_13 (by decide) ?_
      refine lv_icmp_eq (tgt := 35) hx hb dX11_needKind_15 (by decide) (fun c_3 => ?_) (fun c_3 => ?_)
      · have nc_3 : p0.toInt = 109 := (xi_eq rfl (by decide +kernel)).mp c_3
        refine vx_ret ?_
        have hP9 := hP.sub (ws' := []) [] rfl
        have hD9 := hD.sub (ws' := []) [] (by decide) rfl
        refine W.widen (k := 1) (n := 6) (Nat.le_of_ble_eq_true rfl) (Nat.le_of_ble_eq_true rfl) ?_
        exact W.vret hx hb hr (fun t ht hW => ⟨⟨(), rfl, trivial, ⟨(Or.inr (Or.inr (Or.inl ⟨nc_1, nc_2, nc_3⟩))), by rw [ht]; exact hP9, hD9⟩⟩, hS.F ht⟩) hS.2.2 dX11_needKind_35
      · have nc_3 : ¬ (p0.toInt = 109) := mt (xi_eq rfl (by decide +kernel)).mpr c_3
        refine lv_iload_n hx hb dX11_needKind_18 rfl (lv_at hl 0 rfl) ?_
        refine lv_bipush (v := 112) hx hb dX11_needKind_19 (by decide) ?_
        refine lv_icmp_eq (tgt := 35) hx hb dX11_needKind_21 (by decide) (fun c_4 => ?_) (fun c_4 => ?_)
        · have nc_4 : p0.toInt = 112 := (xi_eq rfl (by decide +kernel)).mp c_4
          refine vx_ret ?_
          have hP9 := hP.sub (ws' := []) [] rfl
          have hD9 := hD.sub (ws' := []) [] (by decide) rfl
          refine W.widen (k := 1) (n := 6) (Nat.le_of_ble_eq_true rfl) (Nat.le_of_ble_eq_true rfl) ?_
          exact W.vret hx hb hr (fun t ht hW => ⟨⟨(), rfl, trivial, ⟨(Or.inr (Or.inr (Or.inr (⟨nc_1, nc_2, nc_3, nc_4⟩)))), by rw [ht]; exact hP9, hD9⟩⟩, hS.F ht⟩) hS.2.2 dX11_needKind_35
        · have nc_4 : ¬ (p0.toInt = 112) := mt (xi_eq rfl (by decide +kernel)).mpr c_4
          obtain ⟨sa, hsa⟩ := hG.2.2.2.2.1 (RX11, 387, "there is no such kind of nearness") (by decide +kernel)
          have hP9 := hP.sub (ws' := []) [] rfl
          have hD9 := hD.sub (ws' := []) [] (by decide) rfl
          exact vx_throwSW (cls := "java/lang/IllegalArgumentException") (names := ["java/lang/RuntimeException", "java/lang/Exception"]) (text := "there is no such kind of nearness") (ic := 214) hx hb hst hown (by decide +kernel) (by decide +kernel) (hts (.classLink RX11 210 "java/lang/IllegalArgumentException") (by decide +kernel)) (hts (.initialized "java/lang/IllegalArgumentException") (by decide +kernel)) hsa hat_214 (by decide +kernel) hG.1 hG.2.1 hS (by rw [hml]; exact hl.1) dX11_needKind_24 dX11_needKind_27 dX11_needKind_28 dX11_needKind_31 dX11_needKind_34 (fun x hx => absurd (hex x hx) id) (Nat.le_of_ble_eq_true rfl) (Nat.le_of_ble_eq_true rfl) (Nat.le_of_ble_eq_true rfl) (Nat.le_of_ble_eq_true rfl) hlocks (fun t hvm hz1 hk1 => ⟨(), trivial, ⟨⟨nc_1, nc_2, nc_3, nc_4⟩, rfl, hP9.kept (fun k x hx => hk1 x.1 ((hP9 k x hx).lt)), hD9⟩, xthrF hS hz1 hk1⟩) hS.2.2 (Nat.le_of_ble_eq_true rfl) (Nat.le_of_ble_eq_true rfl)
set_option maxHeartbeats 4000000 in
set_option maxRecDepth 100000 in
theorem xcX11_needRange_v4 (l : Launch) (hst : l.stackTraces = false) (dC : Nat → ClassId) (dI : Nat → Nat → Nat) (T : Nat → ClassId) (sz : Nat) (p0 : Int32) : vx_Met l yX11_needRange wsX11_needRange ({ frames := 6, cells := 1, slots := 6, locals := 82 } : Room) (va_Pc [.int p0, .int (-999), .int 999] (fun U => xB dC dI T [] sz U)) (va_Qv (fun _ : Unit => True) (fun (_ : Unit) (t : State) => ((¬ (p0.toInt < -999)) ∧ (p0.toInt ≤ 999)) ∧ xE dC dI [] (va_A [] sz) t) (va_A [] sz)) (vx_X (fun _ : Unit => True) (fun (E : String) (_ : Unit) (t : State) => ((p0.toInt < -999) ∨ ((¬ (p0.toInt < -999)) ∧ (¬ (p0.toInt ≤ 999)))) ∧ E = "java/lang/IllegalArgumentException" ∧ xE dC dI [] (va_A [] sz) t) (va_A [] sz)) 1 6 (va_A [] sz) := by
  refine vx_ofW (cc := cX11_needRange) (maxL := 3) (ret := none) (by decide +kernel) rfl ?_
  intro p e s m args below meth c s₁ B hml hex hv
  obtain ⟨rfl, hsz, hP, hK, hD0, hG⟩ := hv
  have hx := B.exec
  have hb := B.bytes
  have hr := B.returns
  have hts := atoms_spec (ws := wsX11_needRange) B.pre
  have hown : s.vm.findClass RX11 = some m.cls := findClass_of_methodNamed B.named
  have hlocks := B.notSynchronized
  have hm_214 : ∀ w ∈ (vx_atS RX11 214 "java/lang/IllegalArgumentException" ["java/lang/RuntimeException", "java/lang/Exception"]).filter goodWord, w ∈ wsX11_needRange := by decide +kernel
  have hat_214 : ∀ w ∈ vx_atS RX11 214 "java/lang/IllegalArgumentException" ["java/lang/RuntimeException", "java/lang/Exception"], w.before (#[.int p0, .int (-999), .int 999] : Array Value) s = true := vx_hat (B := xBad) (fun w hw => hts w (hm_214 w hw)) (by decide +kernel) (xBad_use hG.2.2.2.1)
  subst hsz
  have hD := hD0.self (sz := s.heap.size)
  generalize hAe : va_A [] s.heap.size = A at hD hG ⊢
  have hA : ∀ q : Nat, s.heap.size ≤ q → A q := fun q h => by rw [← hAe]; exact Or.inr h
  have hS : va_S A s.heap s.heap [] := va_S.rf
  have hl := lv_entry ([.int p0, .int (-999), .int 999]) (n := 3) (Nat.le_of_ble_eq_true rfl)
  rw [lg_entry_eq]
  generalize (lg_sl ([.int p0, .int (-999), .int 999]) ++ List.replicate (3 - (lg_sl ([.int p0, .int (-999), .int 999])).length) Slot.unset).toArray = ls at hl ⊢
  have hl : lv_has ls 3 [(0, .int p0), (1, .int (-999)), (2, .int 999)] := hl
  refine lv_iload_n hx hb dX11_needRange_0 rfl (lv_at hl 0 rfl) ?_
  refine lv_iload_n hx hb dX11_needRange_1 rfl (lv_at hl 1 rfl) ?_
  refine lv_icmp_lt (tgt := 10) hx hb dX11_needRange_2 (by decide) (fun c_1 => ?_) (fun c_1 => ?_)
  · have nc_1 : p0.toInt < -999 := (xi_lt rfl (by decide +kernel)).mp c_1
    obtain ⟨sa, hsa⟩ := hG.2.2.2.2.1 (RX11, 385, "a number is out of range") (by decide +kernel)
    have hP9 := hP.sub (ws' := []) [] rfl
    have hD9 := hD.sub (ws' := []) [] (by decide) rfl
    exact vx_throwSW (cls := "java/lang/IllegalArgumentException") (names := ["java/lang/RuntimeException", "java/lang/Exception"]) (text := "a number is out of range") (ic := 214) hx hb hst hown (by decide +kernel) (by decide +kernel) (hts (.classLink RX11 210 "java/lang/IllegalArgumentException") (by decide +kernel)) (hts (.initialized "java/lang/IllegalArgumentException") (by decide +kernel)) hsa hat_214 (by decide +kernel) hG.1 hG.2.1 hS (by rw [hml]; exact hl.1) dX11_needRange_10 dX11_needRange_13 dX11_needRange_14 dX11_needRange_17 dX11_needRange_20 (fun x hx => absurd (hex x hx) id) (Nat.le_of_ble_eq_true rfl) (Nat.le_of_ble_eq_true rfl) (Nat.le_of_ble_eq_true rfl) (Nat.le_of_ble_eq_true rfl) hlocks (fun t hvm hz1 hk1 => ⟨(), trivial, ⟨(Or.inl nc_1), rfl, hP9.kept (fun k x hx => hk1 x.1 ((hP9 k x hx).lt)), hD9⟩, xthrF hS hz1 hk1⟩) hS.2.2 (Nat.le_of_ble_eq_true rfl) (Nat.le_of_ble_eq_true rfl)
  · have nc_1 : ¬ (p0.toInt < -999) := mt (xi_lt rfl (by decide +kernel)).mpr c_1
    refine lv_iload_n hx hb dX11_needRange_5 rfl (lv_at hl 0 rfl) ?_
    refine lv_iload_n hx hb dX11_needRange_6 rfl (lv_at hl 2 rfl) ?_
    refine lv_icmp_le (tgt := 21) hx hb dX11_needRange_7 (by decide) (fun c_2 => ?_) (fun c_2 => ?_)
    · have nc_2 : p0.toInt ≤ 999 := (xi_le rfl (by decide +kernel)).mp c_2
      refine vx_ret ?_
      have hP9 := hP.sub (ws' := []) [] rfl
      have hD9 := hD.sub (ws' := []) [] (by decide) rfl
      refine W.widen (k := 1) (n := 6) (Nat.le_of_ble_eq_true rfl) (Nat.le_of_ble_eq_true rfl) ?_
      exact W.vret hx hb hr (fun t ht hW => ⟨⟨(), rfl, trivial, ⟨⟨nc_1, nc_2⟩, by rw [ht]; exact hP9, hD9⟩⟩, hS.F ht⟩) hS.2.2 dX11_needRange_21
    · have nc_2 : ¬ (p0.toInt ≤ 999) := mt (xi_le rfl (by decide +kernel)).mpr c_2
      obtain ⟨sa, hsa⟩ := hG.2.2.2.2.1 (RX11, 385, "a number is out of range") (by decide +kernel)
      have hP9 := hP.sub (ws' := []) [] rfl
      have hD9 := hD.sub (ws' := []) [] (by decide) rfl
      exact vx_throwSW (cls := "java/lang/IllegalArgumentException") (names := ["java/lang/RuntimeException", "java/lang/Exception"]) (text := "a number is out of range") (ic := 214) hx hb hst hown (by decide +kernel) (by decide +kernel) (hts (.classLink RX11 210 "java/lang/IllegalArgumentException") (by decide +kernel)) (hts (.initialized "java/lang/IllegalArgumentException") (by decide +kernel)) hsa hat_214 (by decide +kernel) hG.1 hG.2.1 hS (by rw [hml]; exact hl.1) dX11_needRange_10 dX11_needRange_13 dX11_needRange_14 dX11_needRange_17 dX11_needRange_20 (fun x hx => absurd (hex x hx) id) (Nat.le_of_ble_eq_true rfl) (Nat.le_of_ble_eq_true rfl) (Nat.le_of_ble_eq_true rfl) (Nat.le_of_ble_eq_true rfl) hlocks (fun t hvm hz1 hk1 => ⟨(), trivial, ⟨(Or.inr (⟨nc_1, nc_2⟩)), rfl, hP9.kept (fun k x hx => hk1 x.1 ((hP9 k x hx).lt)), hD9⟩, xthrF hS hz1 hk1⟩) hS.2.2 (Nat.le_of_ble_eq_true rfl) (Nat.le_of_ble_eq_true rfl)
set_option maxHeartbeats 4000000 in
set_option maxRecDepth 100000 in
theorem xcX11_needBoth_v2 (l : Launch) (hst : l.stackTraces = false) (dC : Nat → ClassId) (dI : Nat → Nat → Nat) (T : Nat → ClassId) (sz : Nat) (p0 : Int32) (p1 : Int32) : vx_Met l yX11_needBoth wsX11_needBoth ({ frames := 7, cells := 2, slots := 12, locals := 104 } : Room) (va_Pc [.int p0, .int p1, .int 999] (fun U => xB dC dI T [] sz U)) (va_Qv (fun _ : Unit => True) (fun (_ : Unit) (t : State) => (((¬ (p0.toInt < -999)) ∧ (p0.toInt ≤ 999)) ∧ ((¬ (p1.toInt < -999)) ∧ (p1.toInt ≤ 999))) ∧ xE dC dI [] (va_A [] sz) t) (va_A [] sz)) (vx_X (fun _ : Unit => True) (fun (E : String) (_ : Unit) (t : State) => (((p0.toInt < -999) ∨ ((¬ (p0.toInt < -999)) ∧ (¬ (p0.toInt ≤ 999)))) ∨ (((¬ (p0.toInt < -999)) ∧ (p0.toInt ≤ 999)) ∧ ((p1.toInt < -999) ∨ ((¬ (p1.toInt < -999)) ∧ (¬ (p1.toInt ≤ 999)))))) ∧ E = "java/lang/IllegalArgumentException" ∧ xE dC dI [] (va_A [] sz) t) (va_A [] sz)) 2 12 (va_A [] sz) := by
  refine vx_ofW (cc := cX11_needBoth) (maxL := 3) (ret := none) (by decide +kernel) rfl ?_
  intro p e s m args below meth c s₁ B hml hex hv
  obtain ⟨rfl, hsz, hP, hK, hD0, hG⟩ := hv
  have hx := B.exec
  have hb := B.bytes
  have hr := B.returns
  have hts := atoms_spec (ws := wsX11_needBoth) B.pre
  have hown : s.vm.findClass RX11 = some m.cls := findClass_of_methodNamed B.named
  have hlocks := B.notSynchronized
  subst hsz
  have hD := hD0.self (sz := s.heap.size)
  generalize hAe : va_A [] s.heap.size = A at hD hG ⊢
  have hA : ∀ q : Nat, s.heap.size ≤ q → A q := fun q h => by rw [← hAe]; exact Or.inr h
  have hS : va_S A s.heap s.heap [] := va_S.rf
  have hl := lv_entry ([.int p0, .int p1, .int 999]) (n := 3) (Nat.le_of_ble_eq_true rfl)
  rw [lg_entry_eq]
  generalize (lg_sl ([.int p0, .int p1, .int 999]) ++ List.replicate (3 - (lg_sl ([.int p0, .int p1, .int 999])).length) Slot.unset).toArray = ls at hl ⊢
  have hl : lv_has ls 3 [(0, .int p0), (1, .int p1), (2, .int 999)] := hl
  refine lv_iload_n hx hb dX11_needBoth_0 rfl (lv_at hl 0 rfl) ?_
  refine lv_iload_n hx hb dX11_needBoth_1 rfl (lv_at hl 2 rfl) ?_
  refine lv_ineg hx hb dX11_needBoth_2 ?_
  refine lv_topi (fun f_1 ef_1 => ?_)
  obtain rfl : f_1 = (-999) := ef_1.trans (by decide)
  refine lv_iload_n hx hb dX11_needBoth_3 rfl (lv_at hl 2 rfl) ?_
  have hPc := hP.sub (ws' := []) [] rfl
  have hDc := hD.sub (ws' := []) [] (by decide) rfl
  have hFc := va_free (wc := []) hD hS hA [] rfl
  refine vx_callv (vx_runS (As := [.int p0, .int (-999), .int 999]) (rest := []) ⟨hx, hb, hml, hown, hts⟩ (xcX11_needRange_v4 l hst dC dI T s.heap.size p0) (cwS 3 hts gX11_needBoth_X11_needRange rfl rfl rfl (by decide +kernel) ⟨Nat.le_of_ble_eq_true rfl, Nat.le_of_ble_eq_true rfl⟩) ⟨xBlind, xCall hK hG hS hPc hDc hFc⟩ rfl rfl hl.1 rfl (lv_room (Nat.le_of_ble_eq_true rfl)) dX11_needBoth_4 ⟨Nat.le_of_ble_eq_true rfl, Nat.le_of_ble_eq_true rfl⟩) hS (fun q _ h => hFc q h) hFc (fun q _ h => hFc q h) (fun E ce q9 u t H locs ht hvm hw hB hz1 hk1 hS hce hcv hcl => ?_) (fun u t H locs ht hvm hw hB hz1 hk1 hS => ?_)
  · rcases hB with ⟨c_2, hE, hP1, hD1⟩
    subst hE
    rw [ht] at hP1
    obtain ⟨hP, hD⟩ := va_join (wr := []) (w1 := []) hP hD [] [] rfl rfl (by decide) (by decide) hk1 hFc hP1 hD1
    have hP : va_P (dC, dI) vwCl [] H := hP
    have hD : va_D A [] := hD
    clear hPc hDc hFc hP1 hD1 hk1 hz1 ht hvm
    have hP9 := hP.sub (ws' := []) [] rfl
    have hD9 := hD.sub (ws' := []) [] (by decide) rfl
    exact vx_out (fun x hx => absurd (hex x hx) id) hlocks hce hcv hcl (fun t ht _ => ⟨(), trivial, ⟨(Or.inl c_2), rfl, by rw [ht]; exact hP9, hD9⟩, hS.F ht⟩) hS.2.2 (Nat.le_of_ble_eq_true rfl) (Nat.le_of_ble_eq_true rfl)
  · rcases hB with ⟨c_3, hP1, hD1⟩
    rw [ht] at hP1
    obtain ⟨hP, hD⟩ := va_join (wr := []) (w1 := []) hP hD [] [] rfl rfl (by decide) (by decide) hk1 hFc hP1 hD1
    have hP : va_P (dC, dI) vwCl [] H := hP
    have hD : va_D A [] := hD
    clear hPc hDc hFc hP1 hD1 hk1 hz1 ht hvm
    refine lv_iload_n hx hb dX11_needBoth_7 rfl (lv_at hl 1 rfl) ?_
    refine lv_iload_n hx hb dX11_needBoth_8 rfl (lv_at hl 2 rfl) ?_
    refine lv_ineg hx hb dX11_needBoth_9 ?_
    refine lv_topi (fun f_4 ef_4 => ?_)
    obtain rfl : f_4 = (-999) := ef_4.trans (by decide)
    refine lv_iload_n hx hb dX11_needBoth_10 rfl (lv_at hl 2 rfl) ?_
    have hPc := hP.sub (ws' := []) [] rfl
    have hDc := hD.sub (ws' := []) [] (by decide) rfl
    have hFc := va_free (wc := []) hD hS hA [] rfl
    refine vx_callv (vx_runS (As := [.int p1, .int (-999), .int 999]) (rest := []) ⟨hx, hb, hml, hown, hts⟩ (xcX11_needRange_v4 l hst dC dI T H.size p1) (cwS 3 hts gX11_needBoth_X11_needRange rfl rfl rfl (by decide +kernel) ⟨Nat.le_of_ble_eq_true rfl, Nat.le_of_ble_eq_true rfl⟩) ⟨xBlind, xCall hK hG hS hPc hDc hFc⟩ rfl rfl hl.1 rfl (lv_room (Nat.le_of_ble_eq_true rfl)) dX11_needBoth_11 ⟨Nat.le_of_ble_eq_true rfl, Nat.le_of_ble_eq_true rfl⟩) hS (fun q _ h => hFc q h) hFc (fun q _ h => hFc q h) (fun E ce q9 u t H locs ht hvm hw hB hz1 hk1 hS hce hcv hcl => ?_) (fun u t H locs ht hvm hw hB hz1 hk1 hS => ?_)
    · rcases hB with ⟨c_5, hE, hP1, hD1⟩
      subst hE
      rw [ht] at hP1
      obtain ⟨hP, hD⟩ := va_join (wr := []) (w1 := []) hP hD [] [] rfl rfl (by decide) (by decide) hk1 hFc hP1 hD1
      have hP : va_P (dC, dI) vwCl [] H := hP
      have hD : va_D A [] := hD
      clear hPc hDc hFc hP1 hD1 hk1 hz1 ht hvm
      have hP9 := hP.sub (ws' := []) [] rfl
      have hD9 := hD.sub (ws' := []) [] (by decide) rfl
      exact vx_out (fun x hx => absurd (hex x hx) id) hlocks hce hcv hcl (fun t ht _ => ⟨(), trivial, ⟨(Or.inr (⟨c_3, c_5⟩)), rfl, by rw [ht]; exact hP9, hD9⟩, hS.F ht⟩) hS.2.2 (Nat.le_of_ble_eq_true rfl) (Nat.le_of_ble_eq_true rfl)
    · rcases hB with ⟨c_6, hP1, hD1⟩
      rw [ht] at hP1
      obtain ⟨hP, hD⟩ := va_join (wr := []) (w1 := []) hP hD [] [] rfl rfl (by decide) (by decide) hk1 hFc hP1 hD1
      have hP : va_P (dC, dI) vwCl [] H := hP
      have hD : va_D A [] := hD
      clear hPc hDc hFc hP1 hD1 hk1 hz1 ht hvm
      refine vx_ret ?_
      have hP9 := hP.sub (ws' := []) [] rfl
      have hD9 := hD.sub (ws' := []) [] (by decide) rfl
      exact W.vret hx hb hr (fun t ht hW => ⟨⟨(), rfl, trivial, ⟨⟨c_3, c_6⟩, by rw [ht]; exact hP9, hD9⟩⟩, hS.F ht⟩) hS.2.2 dX11_needBoth_14
set_option maxHeartbeats 4000000 in
set_option maxRecDepth 100000 in
theorem xcX11_getHullShare (l : Launch) (hst : l.stackTraces = false) (dC : Nat → ClassId) (dI : Nat → Nat → Nat) (T : Nat → ClassId) (a1 : Nat) (a2 : Nat) (a3 : Nat) (a4 : Nat) (a5 : Nat) (a6 : Nat) (a7 : Nat) (a8 : Nat) (a9 : Nat) (a10 : Nat) (a11 : Nat) (a12 : Nat) (a13 : Nat) (a14 : Nat) (a15 : Nat) (a16 : Nat) (sz : Nat) : vx_Met l yX11_getHullShare wsX11_getHullShare ({ frames := 6, cells := 1, slots := 6, locals := 82 } : Room) (va_Pc [.ref a1] (fun U => xB dC dI T [(a1, .inr (16, [.ref a2, .ref a3, .ref a4, .ref a5, .ref a6, .ref a7, .ref a8, .ref a9, .ref a10, .ref a11])), (a2, .inr (10, [.ref a12, .ref a13, .ref a14, .ref a15, .ref a16, .int 0, .int 0]))] sz U)) (va_Qf (fun (r u : UInt32) => r = u) (fun (u : UInt32) (t : State) => False) (va_A [(a1, .inr (16, [.ref a2, .ref a3, .ref a4, .ref a5, .ref a6, .ref a7, .ref a8, .ref a9, .ref a10, .ref a11])), (a2, .inr (10, [.ref a12, .ref a13, .ref a14, .ref a15, .ref a16, .int 0, .int 0]))] sz)) (vx_X (fun _ : Unit => True) (fun (E : String) (_ : Unit) (t : State) => E = "java/lang/ArithmeticException" ∧ xE dC dI [] (va_A [(a1, .inr (16, [.ref a2, .ref a3, .ref a4, .ref a5, .ref a6, .ref a7, .ref a8, .ref a9, .ref a10, .ref a11])), (a2, .inr (10, [.ref a12, .ref a13, .ref a14, .ref a15, .ref a16, .int 0, .int 0]))] sz) t) (va_A [(a1, .inr (16, [.ref a2, .ref a3, .ref a4, .ref a5, .ref a6, .ref a7, .ref a8, .ref a9, .ref a10, .ref a11])), (a2, .inr (10, [.ref a12, .ref a13, .ref a14, .ref a15, .ref a16, .int 0, .int 0]))] sz)) 1 6 (va_A [(a1, .inr (16, [.ref a2, .ref a3, .ref a4, .ref a5, .ref a6, .ref a7, .ref a8, .ref a9, .ref a10, .ref a11])), (a2, .inr (10, [.ref a12, .ref a13, .ref a14, .ref a15, .ref a16, .int 0, .int 0]))] sz) := by
  refine vx_ofW (cc := cX11_getHullShare) (maxL := 2) (ret := (some .float)) (by decide +kernel) rfl ?_
  intro p e s m args below meth c s₁ B hml hex hv
  obtain ⟨rfl, hsz, hP, hK, hD0, hG⟩ := hv
  have hx := B.exec
  have hb := B.bytes
  have hr := B.returns
  have hts := atoms_spec (ws := wsX11_getHullShare) B.pre
  have hown : s.vm.findClass RX11 = some m.cls := findClass_of_methodNamed B.named
  have hlocks := B.notSynchronized
  have hin_X11 : ∀ w ∈ wsX110, w ∈ wsX11_getHullShare := by decide +kernel
  have hm_360 : ∀ w ∈ (vx_atS RX11 360 "java/lang/ArithmeticException" ["java/lang/RuntimeException", "java/lang/Exception"]).filter goodWord, w ∈ wsX11_getHullShare := by decide +kernel
  have hat_360 : ∀ w ∈ vx_atS RX11 360 "java/lang/ArithmeticException" ["java/lang/RuntimeException", "java/lang/Exception"], w.before (#[.ref a1] : Array Value) s = true := vx_hat (B := xBad) (fun w hw => hts w (hm_360 w hw)) (by decide +kernel) (xBad_use hG.2.2.2.1)
  subst hsz
  have hD := hD0.self (sz := s.heap.size)
  generalize hAe : va_A [(a1, .inr (16, [.ref a2, .ref a3, .ref a4, .ref a5, .ref a6, .ref a7, .ref a8, .ref a9, .ref a10, .ref a11])), (a2, .inr (10, [.ref a12, .ref a13, .ref a14, .ref a15, .ref a16, .int 0, .int 0]))] s.heap.size = A at hD hG ⊢
  have hA : ∀ q : Nat, s.heap.size ≤ q → A q := fun q h => by rw [← hAe]; exact Or.inr h
  have hS : va_S A s.heap s.heap [] := va_S.rf
  have hl := lv_entry ([.ref a1]) (n := 2) (Nat.le_of_ble_eq_true rfl)
  rw [lg_entry_eq]
  generalize (lg_sl ([.ref a1]) ++ List.replicate (2 - (lg_sl ([.ref a1])).length) Slot.unset).toArray = ls at hl ⊢
  have hl : lv_has ls 2 [(0, .ref a1)] := hl
  refine lv_aload_n hx hb dX11_getHullShare_0 rfl (lv_at hl 0 rfl) ?_
  refine va_get (D := (dC, dI)) (ci := 16) (v := .ref a2) (C := RX11) (T := TX11) (N := 10) hx hb hts hin_X11 hown hK hP 0 rfl rfl 0 (by decide) (hts (.fieldLink RX11 12 "Nearestward" "ground" "LNearestward$Ground;") (by decide +kernel)) (fun _ h9 => h9) rfl dX11_getHullShare_1 ?_
  have hPc := hP.sub (ws' := [(a2, .inr (10, [.ref a12, .ref a13, .ref a14, .ref a15, .ref a16, .int 0, .int 0]))]) [1] rfl
  have hDc := hD.sub (ws' := [(a2, .inr (10, [.ref a12, .ref a13, .ref a14, .ref a15, .ref a16, .int 0, .int 0]))]) [1] (by decide) rfl
  have hFc := va_free (wc := [(a2, .inr (10, [.ref a12, .ref a13, .ref a14, .ref a15, .ref a16, .int 0, .int 0]))]) hD hS hA [1] rfl
  refine va_calli (va_runV (As := []) (rest := []) ⟨hx, hb, hml, hown, hts⟩ (xcX5_count l hst dC dI T a2 a12 a13 a14 a15 a16 s.heap.size) (cwV 0 hts gX11_getHullShare_X5_count rfl rfl rfl (by decide +kernel) ⟨Nat.le_of_ble_eq_true rfl, Nat.le_of_ble_eq_true rfl⟩) ⟨xBlind, va_recv hK hPc (ci := 10) (q0 := 0) rfl rfl, xCall hK hG hS hPc hDc hFc⟩ rfl rfl hl.1 rfl (lv_room (Nat.le_of_ble_eq_true rfl)) dX11_getHullShare_4 ⟨Nat.le_of_ble_eq_true rfl, Nat.le_of_ble_eq_true rfl⟩) hS (fun q _ h => hFc q h) hFc (fun r_9 u t H locs ht hvm hw hB hz1 hk1 hS => ?_)
  subst hw
  rcases hB with ⟨hr_9, hP1, hD1⟩
  rw [ht] at hP1
  subst hr_9
  obtain ⟨hP, hD⟩ := va_join (wr := [(a1, .inr (16, [.ref a2, .ref a3, .ref a4, .ref a5, .ref a6, .ref a7, .ref a8, .ref a9, .ref a10, .ref a11]))]) (w1 := [(a2, .inr (10, [.ref a12, .ref a13, .ref a14, .ref a15, .ref a16, .int 0, .int 0]))]) hP hD [1] [0] rfl rfl (by decide) (by decide) hk1 hFc hP1 hD1
  have hP : va_P (dC, dI) vwCl [(a1, .inr (16, [.ref a2, .ref a3, .ref a4, .ref a5, .ref a6, .ref a7, .ref a8, .ref a9, .ref a10, .ref a11])), (a2, .inr (10, [.ref a12, .ref a13, .ref a14, .ref a15, .ref a16, .int 0, .int 0]))] H := hP
  have hD : va_D A [(a1, .inr (16, [.ref a2, .ref a3, .ref a4, .ref a5, .ref a6, .ref a7, .ref a8, .ref a9, .ref a10, .ref a11])), (a2, .inr (10, [.ref a12, .ref a13, .ref a14, .ref a15, .ref a16, .int 0, .int 0]))] := hD
  clear hPc hDc hFc hP1 hD1 hk1 hz1 ht hvm
  refine lv_istore_n (lv' := [(1, .int 0), (0, .ref a1)]) hx hb dX11_getHullShare_7 rfl hl (by decide) rfl (fun ls hl => ?_)
  refine lv_iload_n hx hb dX11_getHullShare_8 rfl (lv_at hl 0 rfl) ?_
  refine lv_if_ne (tgt := 23) hx hb dX11_getHullShare_9 (by decide) (fun c_2 => absurd c_2 (by decide)) (fun c_2 => ?_)
  obtain ⟨sa, hsa⟩ := hG.2.2.2.2.1 (RX11, 358, "there are no points") (by decide +kernel)
  have hP9 := hP.sub (ws' := []) [] rfl
  have hD9 := hD.sub (ws' := []) [] (by decide) rfl
  exact vx_throwSW (cls := "java/lang/ArithmeticException") (names := ["java/lang/RuntimeException", "java/lang/Exception"]) (text := "there are no points") (ic := 360) hx hb hst hown (by decide +kernel) (by decide +kernel) (hts (.classLink RX11 356 "java/lang/ArithmeticException") (by decide +kernel)) (hts (.initialized "java/lang/ArithmeticException") (by decide +kernel)) hsa hat_360 (by decide +kernel) hG.1 hG.2.1 hS (by rw [hml]; exact hl.1) dX11_getHullShare_12 dX11_getHullShare_15 dX11_getHullShare_16 dX11_getHullShare_19 dX11_getHullShare_22 (fun x hx => absurd (hex x hx) id) (Nat.le_of_ble_eq_true rfl) (Nat.le_of_ble_eq_true rfl) (Nat.le_of_ble_eq_true rfl) (Nat.le_of_ble_eq_true rfl) hlocks (fun t hvm hz1 hk1 => ⟨(), trivial, ⟨rfl, hP9.kept (fun k x hx => hk1 x.1 ((hP9 k x hx).lt)), hD9⟩, xthrF hS hz1 hk1⟩) hS.2.2 (Nat.le_of_ble_eq_true rfl) (Nat.le_of_ble_eq_true rfl)
set_option maxHeartbeats 4000000 in
set_option maxRecDepth 100000 in
theorem xcL_getHullShare (l : Launch) (hst : l.stackTraces = false) (dC : Nat → ClassId) (dI : Nat → Nat → Nat) (T : Nat → ClassId) (a1 : Nat) (a2 : Nat) (a3 : Nat) (a4 : Nat) (a5 : Nat) (a6 : Nat) (a7 : Nat) (a8 : Nat) (a9 : Nat) (a10 : Nat) (a11 : Nat) (a12 : Nat) (a13 : Nat) (a14 : Nat) (a15 : Nat) (a16 : Nat) (a17 : Nat) (sz : Nat) : Met l yL_getHullShare wsL_getHullShare ({ frames := 7, cells := 1, slots := 6, locals := 103 } : Room) (va_Pc [.ref a1, .ref a2] (fun U => xB dC dI T [(a1, .inr (16, [.ref a3, .ref a4, .ref a5, .ref a6, .ref a7, .ref a8, .ref a9, .ref a10, .ref a11, .ref a12])), (a3, .inr (10, [.ref a13, .ref a14, .ref a15, .ref a16, .ref a17, .int 0, .int 0]))] sz U)) (va_Qi (fun (r u : Int32) => r = u) (fun (u : Int32) (t : State) => 1 = u ∧ xE dC dI [] (va_A [(a1, .inr (16, [.ref a3, .ref a4, .ref a5, .ref a6, .ref a7, .ref a8, .ref a9, .ref a10, .ref a11, .ref a12])), (a3, .inr (10, [.ref a13, .ref a14, .ref a15, .ref a16, .ref a17, .int 0, .int 0]))] sz) t) (va_A [(a1, .inr (16, [.ref a3, .ref a4, .ref a5, .ref a6, .ref a7, .ref a8, .ref a9, .ref a10, .ref a11, .ref a12])), (a3, .inr (10, [.ref a13, .ref a14, .ref a15, .ref a16, .ref a17, .int 0, .int 0]))] sz)) 1 6 (va_A [(a1, .inr (16, [.ref a3, .ref a4, .ref a5, .ref a6, .ref a7, .ref a8, .ref a9, .ref a10, .ref a11, .ref a12])), (a3, .inr (10, [.ref a13, .ref a14, .ref a15, .ref a16, .ref a17, .int 0, .int 0]))] sz) := by
  refine va_MetW (cc := cL_getHullShare) (maxL := 3) (ret := (some .int)) (hh := [(0, 8, 11, 149)]) (by decide +kernel) rfl ?_
  intro p e s m args below meth c s₁ B hml hv
  obtain ⟨rfl, hsz, hP, hK, hD0, hG⟩ := hv
  have hx := B.exec
  have hb := B.bytes
  have hr := B.returns
  have hts := atoms_spec (ws := wsL_getHullShare) B.pre
  have hown : s.vm.findClass RL = some m.cls := findClass_of_methodNamed B.named
  have hlocks := B.notSynchronized
  have htab := vx_table (x := yL_getHullShare) B (hts (.codeWith yL_getHullShare cL_getHullShare 3 (some .int) [(0, 8, 11, 149)]) (by decide +kernel))
  subst hsz
  have hD := hD0.self (sz := s.heap.size)
  generalize hAe : va_A [(a1, .inr (16, [.ref a3, .ref a4, .ref a5, .ref a6, .ref a7, .ref a8, .ref a9, .ref a10, .ref a11, .ref a12])), (a3, .inr (10, [.ref a13, .ref a14, .ref a15, .ref a16, .ref a17, .int 0, .int 0]))] s.heap.size = A at hD hG ⊢
  have hA : ∀ q : Nat, s.heap.size ≤ q → A q := fun q h => by rw [← hAe]; exact Or.inr h
  have hS : va_S A s.heap s.heap [] := va_S.rf
  have hl := lv_entry ([.ref a1, .ref a2]) (n := 3) (Nat.le_of_ble_eq_true rfl)
  rw [lg_entry_eq]
  generalize (lg_sl ([.ref a1, .ref a2]) ++ List.replicate (3 - (lg_sl ([.ref a1, .ref a2])).length) Slot.unset).toArray = ls at hl ⊢
  have hl : lv_has ls 3 [(0, .ref a1), (1, .ref a2)] := hl
  refine lv_aload_n hx hb dL_getHullShare_0 rfl (lv_at hl 1 rfl) ?_
  refine lv_iconst (v := 0) hx hb dL_getHullShare_1 (by decide) ?_
  refine lv_aload_n hx hb dL_getHullShare_2 rfl (lv_at hl 0 rfl) ?_
  have hPc := hP.sub (ws' := [(a1, .inr (16, [.ref a3, .ref a4, .ref a5, .ref a6, .ref a7, .ref a8, .ref a9, .ref a10, .ref a11, .ref a12])), (a3, .inr (10, [.ref a13, .ref a14, .ref a15, .ref a16, .ref a17, .int 0, .int 0]))]) [0, 1] rfl
  have hDc := hD.sub (ws' := [(a1, .inr (16, [.ref a3, .ref a4, .ref a5, .ref a6, .ref a7, .ref a8, .ref a9, .ref a10, .ref a11, .ref a12])), (a3, .inr (10, [.ref a13, .ref a14, .ref a15, .ref a16, .ref a17, .int 0, .int 0]))]) [0, 1] (by decide) rfl
  have hFc := va_free (wc := [(a1, .inr (16, [.ref a3, .ref a4, .ref a5, .ref a6, .ref a7, .ref a8, .ref a9, .ref a10, .ref a11, .ref a12])), (a3, .inr (10, [.ref a13, .ref a14, .ref a15, .ref a16, .ref a17, .int 0, .int 0]))]) hD hS hA [0, 1] rfl
  refine vx_callf (vx_runV (As := []) (rest := [.int 0, .ref a2]) ⟨hx, hb, hml, hown, hts⟩ (xcX11_getHullShare l hst dC dI T a1 a3 a4 a5 a6 a7 a8 a9 a10 a11 a12 a13 a14 a15 a16 a17 s.heap.size) (cwV 0 hts gL_getHullShare_X11_getHullShare rfl rfl rfl (by decide +kernel) ⟨Nat.le_of_ble_eq_true rfl, Nat.le_of_ble_eq_true rfl⟩) ⟨xBlind, va_recv hK hPc (ci := 16) (q0 := 0) rfl rfl, xCall hK hG hS hPc hDc hFc⟩ rfl rfl hl.1 rfl (lv_room (Nat.le_of_ble_eq_true rfl)) dL_getHullShare_3 ⟨Nat.le_of_ble_eq_true rfl, Nat.le_of_ble_eq_true rfl⟩) hS (fun q _ h => hFc q h) hFc (fun q _ h => hFc q h) (fun E ce q9 u t H locs ht hvm hw hB hz1 hk1 hS hce hcv hcl => ?_) (fun r_9 u t H locs ht hvm hw hB hz1 hk1 hS => ?_)
  · rcases hB with ⟨hE, hP1, hD1⟩
    subst hE
    rw [ht] at hP1
    obtain ⟨hP, hD⟩ := va_join (wr := []) (w1 := []) hP hD [0, 1] [] rfl rfl (by decide) (by decide) hk1 hFc hP1 hD1
    have hP : va_P (dC, dI) vwCl [] H := hP
    have hD : va_D A [] := hD
    clear hPc hDc hFc hP1 hD1 hk1 hz1 ht hvm
    refine vx_catch (E := "java/lang/ArithmeticException") (name := "java/lang/ArithmeticException") hown [] ⟨0, 8, 11, 149⟩ [] (htab.trans rfl) (fun _ h => absurd h List.not_mem_nil) (by decide) (by decide) (hts (.classLink RL 149 "java/lang/ArithmeticException") (by decide +kernel)) (xBad_use hG.2.2.2.1 _ (by decide +kernel)) hce hcv hcl ?_
    refine lv_astore_n (lv' := [(2, .ref q9), (0, .ref a1), (1, .ref a2)]) hx hb dL_getHullShare_11 rfl hl (by decide) rfl (fun ls hl => ?_)
    refine lv_iconst (v := 1) hx hb dL_getHullShare_12 (by decide) ?_
    have hP9 := hP.sub (ws' := []) [] rfl
    have hD9 := hD.sub (ws' := []) [] (by decide) rfl
    exact W.iret (v := 1) hx hb hr (fun t ht hW => ⟨⟨_, _, rfl, rfl, ⟨rfl, by rw [ht]; exact hP9, hD9⟩⟩, hS.F ht⟩) hS.2.2 dL_getHullShare_13
  · exact absurd hB id
set_option maxHeartbeats 4000000 in
set_option maxRecDepth 100000 in
theorem xcX11_getMeanNeighbours (l : Launch) (hst : l.stackTraces = false) (dC : Nat → ClassId) (dI : Nat → Nat → Nat) (T : Nat → ClassId) (a1 : Nat) (a2 : Nat) (a3 : Nat) (a4 : Nat) (a5 : Nat) (a6 : Nat) (a7 : Nat) (a8 : Nat) (a9 : Nat) (a10 : Nat) (a11 : Nat) (a12 : Nat) (a13 : Nat) (a14 : Nat) (a15 : Nat) (a16 : Nat) (sz : Nat) : vx_Met l yX11_getMeanNeighbours wsX11_getMeanNeighbours ({ frames := 6, cells := 1, slots := 6, locals := 82 } : Room) (va_Pc [.ref a1] (fun U => xB dC dI T [(a1, .inr (16, [.ref a2, .ref a3, .ref a4, .ref a5, .ref a6, .ref a7, .ref a8, .ref a9, .ref a10, .ref a11])), (a2, .inr (10, [.ref a12, .ref a13, .ref a14, .ref a15, .ref a16, .int 0, .int 0]))] sz U)) (va_Qd (fun (r u : UInt64) => r = u) (fun (u : UInt64) (t : State) => False) (va_A [(a1, .inr (16, [.ref a2, .ref a3, .ref a4, .ref a5, .ref a6, .ref a7, .ref a8, .ref a9, .ref a10, .ref a11])), (a2, .inr (10, [.ref a12, .ref a13, .ref a14, .ref a15, .ref a16, .int 0, .int 0]))] sz)) (vx_X (fun _ : Unit => True) (fun (E : String) (_ : Unit) (t : State) => E = "java/lang/ArithmeticException" ∧ xE dC dI [] (va_A [(a1, .inr (16, [.ref a2, .ref a3, .ref a4, .ref a5, .ref a6, .ref a7, .ref a8, .ref a9, .ref a10, .ref a11])), (a2, .inr (10, [.ref a12, .ref a13, .ref a14, .ref a15, .ref a16, .int 0, .int 0]))] sz) t) (va_A [(a1, .inr (16, [.ref a2, .ref a3, .ref a4, .ref a5, .ref a6, .ref a7, .ref a8, .ref a9, .ref a10, .ref a11])), (a2, .inr (10, [.ref a12, .ref a13, .ref a14, .ref a15, .ref a16, .int 0, .int 0]))] sz)) 1 6 (va_A [(a1, .inr (16, [.ref a2, .ref a3, .ref a4, .ref a5, .ref a6, .ref a7, .ref a8, .ref a9, .ref a10, .ref a11])), (a2, .inr (10, [.ref a12, .ref a13, .ref a14, .ref a15, .ref a16, .int 0, .int 0]))] sz) := by
  refine vx_ofW (cc := cX11_getMeanNeighbours) (maxL := 2) (ret := (some .double)) (by decide +kernel) rfl ?_
  intro p e s m args below meth c s₁ B hml hex hv
  obtain ⟨rfl, hsz, hP, hK, hD0, hG⟩ := hv
  have hx := B.exec
  have hb := B.bytes
  have hr := B.returns
  have hts := atoms_spec (ws := wsX11_getMeanNeighbours) B.pre
  have hown : s.vm.findClass RX11 = some m.cls := findClass_of_methodNamed B.named
  have hlocks := B.notSynchronized
  have hin_X11 : ∀ w ∈ wsX110, w ∈ wsX11_getMeanNeighbours := by decide +kernel
  have hm_360 : ∀ w ∈ (vx_atS RX11 360 "java/lang/ArithmeticException" ["java/lang/RuntimeException", "java/lang/Exception"]).filter goodWord, w ∈ wsX11_getMeanNeighbours := by decide +kernel
  have hat_360 : ∀ w ∈ vx_atS RX11 360 "java/lang/ArithmeticException" ["java/lang/RuntimeException", "java/lang/Exception"], w.before (#[.ref a1] : Array Value) s = true := vx_hat (B := xBad) (fun w hw => hts w (hm_360 w hw)) (by decide +kernel) (xBad_use hG.2.2.2.1)
  subst hsz
  have hD := hD0.self (sz := s.heap.size)
  generalize hAe : va_A [(a1, .inr (16, [.ref a2, .ref a3, .ref a4, .ref a5, .ref a6, .ref a7, .ref a8, .ref a9, .ref a10, .ref a11])), (a2, .inr (10, [.ref a12, .ref a13, .ref a14, .ref a15, .ref a16, .int 0, .int 0]))] s.heap.size = A at hD hG ⊢
  have hA : ∀ q : Nat, s.heap.size ≤ q → A q := fun q h => by rw [← hAe]; exact Or.inr h
  have hS : va_S A s.heap s.heap [] := va_S.rf
  have hl := lv_entry ([.ref a1]) (n := 2) (Nat.le_of_ble_eq_true rfl)
  rw [lg_entry_eq]
  generalize (lg_sl ([.ref a1]) ++ List.replicate (2 - (lg_sl ([.ref a1])).length) Slot.unset).toArray = ls at hl ⊢
  have hl : lv_has ls 2 [(0, .ref a1)] := hl
  refine lv_aload_n hx hb dX11_getMeanNeighbours_0 rfl (lv_at hl 0 rfl) ?_
  refine va_get (D := (dC, dI)) (ci := 16) (v := .ref a2) (C := RX11) (T := TX11) (N := 10) hx hb hts hin_X11 hown hK hP 0 rfl rfl 0 (by decide) (hts (.fieldLink RX11 12 "Nearestward" "ground" "LNearestward$Ground;") (by decide +kernel)) (fun _ h9 => h9) rfl dX11_getMeanNeighbours_1 ?_
  have hPc := hP.sub (ws' := [(a2, .inr (10, [.ref a12, .ref a13, .ref a14, .ref a15, .ref a16, .int 0, .int 0]))]) [1] rfl
  have hDc := hD.sub (ws' := [(a2, .inr (10, [.ref a12, .ref a13, .ref a14, .ref a15, .ref a16, .int 0, .int 0]))]) [1] (by decide) rfl
  have hFc := va_free (wc := [(a2, .inr (10, [.ref a12, .ref a13, .ref a14, .ref a15, .ref a16, .int 0, .int 0]))]) hD hS hA [1] rfl
  refine va_calli (va_runV (As := []) (rest := []) ⟨hx, hb, hml, hown, hts⟩ (xcX5_count l hst dC dI T a2 a12 a13 a14 a15 a16 s.heap.size) (cwV 0 hts gX11_getMeanNeighbours_X5_count rfl rfl rfl (by decide +kernel) ⟨Nat.le_of_ble_eq_true rfl, Nat.le_of_ble_eq_true rfl⟩) ⟨xBlind, va_recv hK hPc (ci := 10) (q0 := 0) rfl rfl, xCall hK hG hS hPc hDc hFc⟩ rfl rfl hl.1 rfl (lv_room (Nat.le_of_ble_eq_true rfl)) dX11_getMeanNeighbours_4 ⟨Nat.le_of_ble_eq_true rfl, Nat.le_of_ble_eq_true rfl⟩) hS (fun q _ h => hFc q h) hFc (fun r_9 u t H locs ht hvm hw hB hz1 hk1 hS => ?_)
  subst hw
  rcases hB with ⟨hr_9, hP1, hD1⟩
  rw [ht] at hP1
  subst hr_9
  obtain ⟨hP, hD⟩ := va_join (wr := [(a1, .inr (16, [.ref a2, .ref a3, .ref a4, .ref a5, .ref a6, .ref a7, .ref a8, .ref a9, .ref a10, .ref a11]))]) (w1 := [(a2, .inr (10, [.ref a12, .ref a13, .ref a14, .ref a15, .ref a16, .int 0, .int 0]))]) hP hD [1] [0] rfl rfl (by decide) (by decide) hk1 hFc hP1 hD1
  have hP : va_P (dC, dI) vwCl [(a1, .inr (16, [.ref a2, .ref a3, .ref a4, .ref a5, .ref a6, .ref a7, .ref a8, .ref a9, .ref a10, .ref a11])), (a2, .inr (10, [.ref a12, .ref a13, .ref a14, .ref a15, .ref a16, .int 0, .int 0]))] H := hP
  have hD : va_D A [(a1, .inr (16, [.ref a2, .ref a3, .ref a4, .ref a5, .ref a6, .ref a7, .ref a8, .ref a9, .ref a10, .ref a11])), (a2, .inr (10, [.ref a12, .ref a13, .ref a14, .ref a15, .ref a16, .int 0, .int 0]))] := hD
  clear hPc hDc hFc hP1 hD1 hk1 hz1 ht hvm
  refine lv_istore_n (lv' := [(1, .int 0), (0, .ref a1)]) hx hb dX11_getMeanNeighbours_7 rfl hl (by decide) rfl (fun ls hl => ?_)
  refine lv_iload_n hx hb dX11_getMeanNeighbours_8 rfl (lv_at hl 0 rfl) ?_
  refine lv_if_ne (tgt := 23) hx hb dX11_getMeanNeighbours_9 (by decide) (fun c_2 => absurd c_2 (by decide)) (fun c_2 => ?_)
  obtain ⟨sa, hsa⟩ := hG.2.2.2.2.1 (RX11, 358, "there are no points") (by decide +kernel)
  have hP9 := hP.sub (ws' := []) [] rfl
  have hD9 := hD.sub (ws' := []) [] (by decide) rfl
  exact vx_throwSW (cls := "java/lang/ArithmeticException") (names := ["java/lang/RuntimeException", "java/lang/Exception"]) (text := "there are no points") (ic := 360) hx hb hst hown (by decide +kernel) (by decide +kernel) (hts (.classLink RX11 356 "java/lang/ArithmeticException") (by decide +kernel)) (hts (.initialized "java/lang/ArithmeticException") (by decide +kernel)) hsa hat_360 (by decide +kernel) hG.1 hG.2.1 hS (by rw [hml]; exact hl.1) dX11_getMeanNeighbours_12 dX11_getMeanNeighbours_15 dX11_getMeanNeighbours_16 dX11_getMeanNeighbours_19 dX11_getMeanNeighbours_22 (fun x hx => absurd (hex x hx) id) (Nat.le_of_ble_eq_true rfl) (Nat.le_of_ble_eq_true rfl) (Nat.le_of_ble_eq_true rfl) (Nat.le_of_ble_eq_true rfl) hlocks (fun t hvm hz1 hk1 => ⟨(), trivial, ⟨rfl, hP9.kept (fun k x hx => hk1 x.1 ((hP9 k x hx).lt)), hD9⟩, xthrF hS hz1 hk1⟩) hS.2.2 (Nat.le_of_ble_eq_true rfl) (Nat.le_of_ble_eq_true rfl)
set_option maxHeartbeats 4000000 in
set_option maxRecDepth 100000 in
theorem xcL_getMeanNeighbours (l : Launch) (hst : l.stackTraces = false) (dC : Nat → ClassId) (dI : Nat → Nat → Nat) (T : Nat → ClassId) (a1 : Nat) (a2 : Nat) (a3 : Nat) (a4 : Nat) (a5 : Nat) (a6 : Nat) (a7 : Nat) (a8 : Nat) (a9 : Nat) (a10 : Nat) (a11 : Nat) (a12 : Nat) (a13 : Nat) (a14 : Nat) (a15 : Nat) (a16 : Nat) (a17 : Nat) (sz : Nat) : Met l yL_getMeanNeighbours wsL_getMeanNeighbours ({ frames := 7, cells := 1, slots := 6, locals := 103 } : Room) (va_Pc [.ref a1, .ref a2] (fun U => xB dC dI T [(a1, .inr (16, [.ref a3, .ref a4, .ref a5, .ref a6, .ref a7, .ref a8, .ref a9, .ref a10, .ref a11, .ref a12])), (a3, .inr (10, [.ref a13, .ref a14, .ref a15, .ref a16, .ref a17, .int 0, .int 0]))] sz U)) (va_Qi (fun (r u : Int32) => r = u) (fun (u : Int32) (t : State) => 1 = u ∧ xE dC dI [] (va_A [(a1, .inr (16, [.ref a3, .ref a4, .ref a5, .ref a6, .ref a7, .ref a8, .ref a9, .ref a10, .ref a11, .ref a12])), (a3, .inr (10, [.ref a13, .ref a14, .ref a15, .ref a16, .ref a17, .int 0, .int 0]))] sz) t) (va_A [(a1, .inr (16, [.ref a3, .ref a4, .ref a5, .ref a6, .ref a7, .ref a8, .ref a9, .ref a10, .ref a11, .ref a12])), (a3, .inr (10, [.ref a13, .ref a14, .ref a15, .ref a16, .ref a17, .int 0, .int 0]))] sz)) 1 6 (va_A [(a1, .inr (16, [.ref a3, .ref a4, .ref a5, .ref a6, .ref a7, .ref a8, .ref a9, .ref a10, .ref a11, .ref a12])), (a3, .inr (10, [.ref a13, .ref a14, .ref a15, .ref a16, .ref a17, .int 0, .int 0]))] sz) := by
  refine va_MetW (cc := cL_getMeanNeighbours) (maxL := 3) (ret := (some .int)) (hh := [(0, 7, 10, 149)]) (by decide +kernel) rfl ?_
  intro p e s m args below meth c s₁ B hml hv
  obtain ⟨rfl, hsz, hP, hK, hD0, hG⟩ := hv
  have hx := B.exec
  have hb := B.bytes
  have hr := B.returns
  have hts := atoms_spec (ws := wsL_getMeanNeighbours) B.pre
  have hown : s.vm.findClass RL = some m.cls := findClass_of_methodNamed B.named
  have hlocks := B.notSynchronized
  have htab := vx_table (x := yL_getMeanNeighbours) B (hts (.codeWith yL_getMeanNeighbours cL_getMeanNeighbours 3 (some .int) [(0, 7, 10, 149)]) (by decide +kernel))
  subst hsz
  have hD := hD0.self (sz := s.heap.size)
  generalize hAe : va_A [(a1, .inr (16, [.ref a3, .ref a4, .ref a5, .ref a6, .ref a7, .ref a8, .ref a9, .ref a10, .ref a11, .ref a12])), (a3, .inr (10, [.ref a13, .ref a14, .ref a15, .ref a16, .ref a17, .int 0, .int 0]))] s.heap.size = A at hD hG ⊢
  have hA : ∀ q : Nat, s.heap.size ≤ q → A q := fun q h => by rw [← hAe]; exact Or.inr h
  have hS : va_S A s.heap s.heap [] := va_S.rf
  have hl := lv_entry ([.ref a1, .ref a2]) (n := 3) (Nat.le_of_ble_eq_true rfl)
  rw [lg_entry_eq]
  generalize (lg_sl ([.ref a1, .ref a2]) ++ List.replicate (3 - (lg_sl ([.ref a1, .ref a2])).length) Slot.unset).toArray = ls at hl ⊢
  have hl : lv_has ls 3 [(0, .ref a1), (1, .ref a2)] := hl
  refine lv_aload_n hx hb dL_getMeanNeighbours_0 rfl (lv_at hl 1 rfl) ?_
  refine lv_iconst (v := 0) hx hb dL_getMeanNeighbours_1 (by decide) ?_
  refine lv_aload_n hx hb dL_getMeanNeighbours_2 rfl (lv_at hl 0 rfl) ?_
  have hPc := hP.sub (ws' := [(a1, .inr (16, [.ref a3, .ref a4, .ref a5, .ref a6, .ref a7, .ref a8, .ref a9, .ref a10, .ref a11, .ref a12])), (a3, .inr (10, [.ref a13, .ref a14, .ref a15, .ref a16, .ref a17, .int 0, .int 0]))]) [0, 1] rfl
  have hDc := hD.sub (ws' := [(a1, .inr (16, [.ref a3, .ref a4, .ref a5, .ref a6, .ref a7, .ref a8, .ref a9, .ref a10, .ref a11, .ref a12])), (a3, .inr (10, [.ref a13, .ref a14, .ref a15, .ref a16, .ref a17, .int 0, .int 0]))]) [0, 1] (by decide) rfl
  have hFc := va_free (wc := [(a1, .inr (16, [.ref a3, .ref a4, .ref a5, .ref a6, .ref a7, .ref a8, .ref a9, .ref a10, .ref a11, .ref a12])), (a3, .inr (10, [.ref a13, .ref a14, .ref a15, .ref a16, .ref a17, .int 0, .int 0]))]) hD hS hA [0, 1] rfl
  refine vx_calld (vx_runV (As := []) (rest := [.int 0, .ref a2]) ⟨hx, hb, hml, hown, hts⟩ (xcX11_getMeanNeighbours l hst dC dI T a1 a3 a4 a5 a6 a7 a8 a9 a10 a11 a12 a13 a14 a15 a16 a17 s.heap.size) (cwV 0 hts gL_getMeanNeighbours_X11_getMeanNeighbours rfl rfl rfl (by decide +kernel) ⟨Nat.le_of_ble_eq_true rfl, Nat.le_of_ble_eq_true rfl⟩) ⟨xBlind, va_recv hK hPc (ci := 16) (q0 := 0) rfl rfl, xCall hK hG hS hPc hDc hFc⟩ rfl rfl hl.1 rfl (lv_room (Nat.le_of_ble_eq_true rfl)) dL_getMeanNeighbours_3 ⟨Nat.le_of_ble_eq_true rfl, Nat.le_of_ble_eq_true rfl⟩) hS (fun q _ h => hFc q h) hFc (fun q _ h => hFc q h) (fun E ce q9 u t H locs ht hvm hw hB hz1 hk1 hS hce hcv hcl => ?_) (fun r_9 u t H locs ht hvm hw hB hz1 hk1 hS => ?_)
  · rcases hB with ⟨hE, hP1, hD1⟩
    subst hE
    rw [ht] at hP1
    obtain ⟨hP, hD⟩ := va_join (wr := []) (w1 := []) hP hD [0, 1] [] rfl rfl (by decide) (by decide) hk1 hFc hP1 hD1
    have hP : va_P (dC, dI) vwCl [] H := hP
    have hD : va_D A [] := hD
    clear hPc hDc hFc hP1 hD1 hk1 hz1 ht hvm
    refine vx_catch (E := "java/lang/ArithmeticException") (name := "java/lang/ArithmeticException") hown [] ⟨0, 7, 10, 149⟩ [] (htab.trans rfl) (fun _ h => absurd h List.not_mem_nil) (by decide) (by decide) (hts (.classLink RL 149 "java/lang/ArithmeticException") (by decide +kernel)) (xBad_use hG.2.2.2.1 _ (by decide +kernel)) hce hcv hcl ?_
    refine lv_astore_n (lv' := [(2, .ref q9), (0, .ref a1), (1, .ref a2)]) hx hb dL_getMeanNeighbours_10 rfl hl (by decide) rfl (fun ls hl => ?_)
    refine lv_iconst (v := 1) hx hb dL_getMeanNeighbours_11 (by decide) ?_
    have hP9 := hP.sub (ws' := []) [] rfl
    have hD9 := hD.sub (ws' := []) [] (by decide) rfl
    exact W.iret (v := 1) hx hb hr (fun t ht hW => ⟨⟨_, _, rfl, rfl, ⟨rfl, by rw [ht]; exact hP9, hD9⟩⟩, hS.F ht⟩) hS.2.2 dL_getMeanNeighbours_12
  · exact absurd hB id
set_option maxHeartbeats 4000000 in
set_option maxRecDepth 100000 in
theorem xcX7_lowestPlaced (l : Launch) (hst : l.stackTraces = false) (dC : Nat → ClassId) (dI : Nat → Nat → Nat) (T : Nat → ClassId) (a1 : Nat) (a2 : Nat) (a3 : Nat) (a4 : Nat) (a5 : Nat) (a6 : Nat) (sz : Nat) : Met l yX7_lowestPlaced wsX7_lowestPlaced ({ frames := 2, cells := 0, slots := 0, locals := 42 } : Room) (va_Pc [.ref a1] (fun U => xB dC dI T [(a1, .inr (10, [.ref a2, .ref a3, .ref a4, .ref a5, .ref a6, .int 0, .int 0]))] sz U)) (va_Qi (fun (r u : Int32) => r = u) (fun (u : Int32) (t : State) => (-1) = u ∧ xE dC dI [(a1, .inr (10, [.ref a2, .ref a3, .ref a4, .ref a5, .ref a6, .int 0, .int 0]))] (va_A [(a1, .inr (10, [.ref a2, .ref a3, .ref a4, .ref a5, .ref a6, .int 0, .int 0]))] sz) t) (va_A [(a1, .inr (10, [.ref a2, .ref a3, .ref a4, .ref a5, .ref a6, .int 0, .int 0]))] sz)) 0 0 (va_A [(a1, .inr (10, [.ref a2, .ref a3, .ref a4, .ref a5, .ref a6, .int 0, .int 0]))] sz) := by
  refine Met.ofW (cc := cX7_lowestPlaced) (maxL := 3) (ret := (some .int)) (by decide +kernel) rfl ?_
  intro p e s m args below meth c s₁ B hml hv
  obtain ⟨rfl, hsz, hP, hK, hD0, hG⟩ := hv
  have hx := B.exec
  have hb := B.bytes
  have hr := B.returns
  have hts := atoms_spec (ws := wsX7_lowestPlaced) B.pre
  have hown : s.vm.findClass RX7 = some m.cls := findClass_of_methodNamed B.named
  have hlocks := B.notSynchronized
  subst hsz
  have hD := hD0.self (sz := s.heap.size)
  generalize hAe : va_A [(a1, .inr (10, [.ref a2, .ref a3, .ref a4, .ref a5, .ref a6, .int 0, .int 0]))] s.heap.size = A at hD hG ⊢
  have hA : ∀ q : Nat, s.heap.size ≤ q → A q := fun q h => by rw [← hAe]; exact Or.inr h
  have hS : va_S A s.heap s.heap [] := va_S.rf
  have hl := lv_entry ([.ref a1]) (n := 3) (Nat.le_of_ble_eq_true rfl)
  rw [lg_entry_eq]
  generalize (lg_sl ([.ref a1]) ++ List.replicate (3 - (lg_sl ([.ref a1])).length) Slot.unset).toArray = ls at hl ⊢
  have hl : lv_has ls 3 [(0, .ref a1)] := hl
  refine lv_iconst (v := (-1)) hx hb dX7_lowestPlaced_0 (by decide) ?_
  refine lv_istore_n (lv' := [(1, .int (-1)), (0, .ref a1)]) hx hb dX7_lowestPlaced_1 rfl hl (by decide) rfl (fun ls hl => ?_)
  refine lv_iconst (v := 0) hx hb dX7_lowestPlaced_2 (by decide) ?_
  refine lv_istore_n (lv' := [(2, .int 0), (1, .int (-1)), (0, .ref a1)]) hx hb dX7_lowestPlaced_3 rfl hl (by decide) rfl (fun ls hl => ?_)
  refine xLoop (P := fun i_k_1 H locs ls => va_P (dC, dI) vwCl [(a1, .inr (10, [.ref a2, .ref a3, .ref a4, .ref a5, .ref a6, .int 0, .int 0]))] H ∧ va_D A [(a1, .inr (10, [.ref a2, .ref a3, .ref a4, .ref a5, .ref a6, .int 0, .int 0]))] ∧ va_S A s.heap H locs ∧ lv_has ls 3 [(2, .int (nI i_k_1)), (1, .int (-1)), (0, .ref a1)]) (N := 12) (fun i_k_1 H locs ls hi_k_1 hI ih_k_1 => ?_) (0) _ _ _ (by omega) ⟨hP, hD, hS, lv_sub hl [0, 1, 2] rfl⟩
  obtain ⟨hP, hD, hS, hl⟩ := hI
  refine lv_iload_n hx hb dX7_lowestPlaced_4 rfl (lv_at hl 0 rfl) ?_
  refine lv_bipush (v := 12) hx hb dX7_lowestPlaced_5 (by decide) ?_
  have hz_3 : (nI i_k_1).toInt = ((i_k_1 : Nat) : Int) := nI_toInt (by omega)
  refine lv_icmp_ge (tgt := 40) hx hb dX7_lowestPlaced_7 (by decide) (fun c_2 => ?_) (fun c_2 => ?_)
  · have nc_2 : 12 ≤ (nI i_k_1).toInt := (xi_le (by decide +kernel) rfl).mp c_2
    refine lv_iload_n hx hb dX7_lowestPlaced_40 rfl (lv_at hl 1 rfl) ?_
    have hP9 := hP.sub (ws' := [(a1, .inr (10, [.ref a2, .ref a3, .ref a4, .ref a5, .ref a6, .int 0, .int 0]))]) [0] rfl
    have hD9 := hD.sub (ws' := [(a1, .inr (10, [.ref a2, .ref a3, .ref a4, .ref a5, .ref a6, .int 0, .int 0]))]) [0] (by decide) rfl
    exact W.iret (v := (-1)) hx hb hr (fun t ht hW => ⟨⟨_, _, rfl, rfl, ⟨rfl, by rw [ht]; exact hP9, hD9⟩⟩, hS.F ht⟩) hS.2.2 dX7_lowestPlaced_41
  · have nc_2 : ¬ (12 ≤ (nI i_k_1).toInt) := mt (xi_le (by decide +kernel) rfl).mpr c_2
    refine lv_aload_n hx hb dX7_lowestPlaced_10 rfl (lv_at hl 2 rfl) ?_
    refine lv_iload_n hx hb dX7_lowestPlaced_11 rfl (lv_at hl 0 rfl) ?_
    have hPc := hP.sub (ws' := [(a1, .inr (10, [.ref a2, .ref a3, .ref a4, .ref a5, .ref a6, .int 0, .int 0]))]) [0] rfl
    have hDc := hD.sub (ws' := [(a1, .inr (10, [.ref a2, .ref a3, .ref a4, .ref a5, .ref a6, .int 0, .int 0]))]) [0] (by decide) rfl
    have hFc := va_free (wc := [(a1, .inr (10, [.ref a2, .ref a3, .ref a4, .ref a5, .ref a6, .int 0, .int 0]))]) hD hS hA [0] rfl
    refine va_calli (va_runV (As := [.int (nI i_k_1)]) (rest := []) ⟨hx, hb, hml, hown, hts⟩ (xcX5_has l hst dC dI T a1 a2 a3 a4 a5 a6 H.size (nI i_k_1)) (cwV 1 hts gX7_lowestPlaced_X5_has rfl rfl rfl (by decide +kernel) ⟨Nat.le_of_ble_eq_true rfl, Nat.le_of_ble_eq_true rfl⟩) ⟨xBlind, va_recv hK hPc (ci := 10) (q0 := 0) rfl rfl, xCall hK hG hS hPc hDc hFc⟩ rfl rfl hl.1 rfl (lv_room (Nat.le_of_ble_eq_true rfl)) dX7_lowestPlaced_12 ⟨Nat.le_of_ble_eq_true rfl, Nat.le_of_ble_eq_true rfl⟩) hS (fun q _ h => hFc q h) hFc (fun r_9 u t H locs ht hvm hw hB hz1 hk1 hS => ?_)
    subst hw
    rcases hB with ⟨hr_9, hP1, hD1⟩
    rw [ht] at hP1
    subst hr_9
    obtain ⟨hP, hD⟩ := va_join (wr := []) (w1 := [(a1, .inr (10, [.ref a2, .ref a3, .ref a4, .ref a5, .ref a6, .int 0, .int 0]))]) hP hD [0] [] rfl rfl (by decide) (by decide) hk1 hFc hP1 hD1
    have hP : va_P (dC, dI) vwCl [(a1, .inr (10, [.ref a2, .ref a3, .ref a4, .ref a5, .ref a6, .int 0, .int 0]))] H := hP
    have hD : va_D A [(a1, .inr (10, [.ref a2, .ref a3, .ref a4, .ref a5, .ref a6, .int 0, .int 0]))] := hD
    clear hPc hDc hFc hP1 hD1 hk1 hz1 ht hvm
    refine lv_if_eq (tgt := 34) hx hb dX7_lowestPlaced_15 (by decide) (fun c_5 => ?_) (fun c_5 => absurd (by decide) c_5)
    refine lv_iinc (v := (nI (i_k_1 + 1))) (lv' := [(2, .int (nI (i_k_1 + 1))), (1, .int (-1)), (0, .ref a1)]) hx hb dX7_lowestPlaced_34 hl (k := 0) rfl (nI_1 _) (by decide) rfl (fun ls hl => ?_)
    refine lv_goto (tgt := 4) hx hb dX7_lowestPlaced_37 (by decide) ?_
    exact ih_k_1 _ _ _ (by omega) ⟨hP, hD, hS, lv_sub hl [0, 1, 2] rfl⟩
set_option maxHeartbeats 4000000 in
set_option maxRecDepth 100000 in
theorem xcX7_findIn (l : Launch) (hst : l.stackTraces = false) (dC : Nat → ClassId) (dI : Nat → Nat → Nat) (T : Nat → ClassId) (a1 : Nat) (a2 : Nat) (a3 : Nat) (a4 : Nat) (a5 : Nat) (a6 : Nat) (a7 : Nat) (a8 : Nat) (sz : Nat) : Met l yX7_findIn wsX7_findIn ({ frames := 3, cells := 0, slots := 0, locals := 64 } : Room) (va_Pc [.ref a1, .ref a2] (fun U => xB dC dI T [(a2, .inr (10, [.ref a3, .ref a4, .ref a5, .ref a6, .ref a7, .int 0, .int 0])), (a1, .inr (12, [.ref a8, .int 0]))] sz U)) (va_Qv (fun _ : Unit => True) (fun (_ : Unit) (t : State) => xE dC dI [(a2, .inr (10, [.ref a3, .ref a4, .ref a5, .ref a6, .ref a7, .int 0, .int 0])), (a1, .inr (12, [.ref a8, .int 0]))] (va_A [(a2, .inr (10, [.ref a3, .ref a4, .ref a5, .ref a6, .ref a7, .int 0, .int 0])), (a1, .inr (12, [.ref a8, .int 0]))] sz) t) (va_A [(a2, .inr (10, [.ref a3, .ref a4, .ref a5, .ref a6, .ref a7, .int 0, .int 0])), (a1, .inr (12, [.ref a8, .int 0]))] sz)) 0 0 (va_A [(a2, .inr (10, [.ref a3, .ref a4, .ref a5, .ref a6, .ref a7, .int 0, .int 0])), (a1, .inr (12, [.ref a8, .int 0]))] sz) := by
  refine Met.ofW (cc := cX7_findIn) (maxL := 5) (ret := none) (by decide +kernel) rfl ?_
  intro p e s m args below meth c s₁ B hml hv
  obtain ⟨rfl, hsz, hP, hK, hD0, hG⟩ := hv
  have hx := B.exec
  have hb := B.bytes
  have hr := B.returns
  have hts := atoms_spec (ws := wsX7_findIn) B.pre
  have hown : s.vm.findClass RX7 = some m.cls := findClass_of_methodNamed B.named
  have hlocks := B.notSynchronized
  have hin_X7 : ∀ w ∈ wsX70, w ∈ wsX7_findIn := by decide +kernel
  subst hsz
  have hD := hD0.self (sz := s.heap.size)
  generalize hAe : va_A [(a2, .inr (10, [.ref a3, .ref a4, .ref a5, .ref a6, .ref a7, .int 0, .int 0])), (a1, .inr (12, [.ref a8, .int 0]))] s.heap.size = A at hD hG ⊢
  have hA : ∀ q : Nat, s.heap.size ≤ q → A q := fun q h => by rw [← hAe]; exact Or.inr h
  have hS : va_S A s.heap s.heap [] := va_S.rf
  have hl := lv_entry ([.ref a1, .ref a2]) (n := 5) (Nat.le_of_ble_eq_true rfl)
  rw [lg_entry_eq]
  generalize (lg_sl ([.ref a1, .ref a2]) ++ List.replicate (5 - (lg_sl ([.ref a1, .ref a2])).length) Slot.unset).toArray = ls at hl ⊢
  have hl : lv_has ls 5 [(0, .ref a1), (1, .ref a2)] := hl
  refine lv_aload_n hx hb dX7_findIn_0 rfl (lv_at hl 0 rfl) ?_
  refine lv_iconst (v := 0) hx hb dX7_findIn_1 (by decide) ?_
  refine va_put (D := (dC, dI)) (ci := 12) (v := .int 0) (ty := .int) (C := RX7) (T := TX7) (N := 2) hx hb hts hin_X7 tyX7 tyX7_ok nmX7 hown hK hP hD hS 1 rfl rfl 1 (by decide) (hts (.fieldLink RX7 15 "Nearestward$Hull" "count" "I") (by decide +kernel)) (fun _ h9 => h9) rfl (by decide +kernel) rfl rfl (Nat.le_of_ble_eq_true rfl) dX7_findIn_2 (fun H locs hP hD hS => ?_)
  have hP : va_P (dC, dI) vwCl [(a2, .inr (10, [.ref a3, .ref a4, .ref a5, .ref a6, .ref a7, .int 0, .int 0])), (a1, .inr (12, [.ref a8, .int 0]))] H := hP
  have hD : va_D A [(a2, .inr (10, [.ref a3, .ref a4, .ref a5, .ref a6, .ref a7, .int 0, .int 0])), (a1, .inr (12, [.ref a8, .int 0]))] := hD
  refine lv_aload_n hx hb dX7_findIn_5 rfl (lv_at hl 1 rfl) ?_
  have hPc := hP.sub (ws' := [(a2, .inr (10, [.ref a3, .ref a4, .ref a5, .ref a6, .ref a7, .int 0, .int 0]))]) [0] rfl
  have hDc := hD.sub (ws' := [(a2, .inr (10, [.ref a3, .ref a4, .ref a5, .ref a6, .ref a7, .int 0, .int 0]))]) [0] (by decide) rfl
  have hFc := va_free (wc := [(a2, .inr (10, [.ref a3, .ref a4, .ref a5, .ref a6, .ref a7, .int 0, .int 0]))]) hD hS hA [0] rfl
  refine va_calli (va_runS (As := [.ref a2]) (rest := []) ⟨hx, hb, hml, hown, hts⟩ (xcX7_lowestPlaced l hst dC dI T a2 a3 a4 a5 a6 a7 H.size) (cwS 1 hts gX7_findIn_X7_lowestPlaced rfl rfl rfl (by decide +kernel) ⟨Nat.le_of_ble_eq_true rfl, Nat.le_of_ble_eq_true rfl⟩) ⟨xBlind, xCall hK hG hS hPc hDc hFc⟩ rfl rfl hl.1 rfl (lv_room (Nat.le_of_ble_eq_true rfl)) dX7_findIn_6 ⟨Nat.le_of_ble_eq_true rfl, Nat.le_of_ble_eq_true rfl⟩) hS (fun q _ h => hFc q h) hFc (fun r_9 u t H locs ht hvm hw hB hz1 hk1 hS => ?_)
  subst hw
  rcases hB with ⟨hr_9, hP1, hD1⟩
  rw [ht] at hP1
  subst hr_9
  obtain ⟨hP, hD⟩ := va_join (wr := [(a1, .inr (12, [.ref a8, .int 0]))]) (w1 := [(a2, .inr (10, [.ref a3, .ref a4, .ref a5, .ref a6, .ref a7, .int 0, .int 0]))]) hP hD [0] [1] rfl rfl (by decide) (by decide) hk1 hFc hP1 hD1
  have hP := hP.sub (ws' := [(a2, .inr (10, [.ref a3, .ref a4, .ref a5, .ref a6, .ref a7, .int 0, .int 0])), (a1, .inr (12, [.ref a8, .int 0]))]) [1, 0] rfl
  have hD := hD.sub (ws' := [(a2, .inr (10, [.ref a3, .ref a4, .ref a5, .ref a6, .ref a7, .int 0, .int 0])), (a1, .inr (12, [.ref a8, .int 0]))]) [1, 0] (by decide) rfl
  clear hPc hDc hFc hP1 hD1 hk1 hz1 ht hvm
  refine lv_istore_n (lv' := [(2, .int (-1)), (0, .ref a1), (1, .ref a2)]) hx hb dX7_findIn_9 rfl hl (by decide) rfl (fun ls hl => ?_)
  refine lv_iload_n hx hb dX7_findIn_10 rfl (lv_at hl 0 rfl) ?_
  refine lv_istore_n (lv' := [(3, .int (-1)), (2, .int (-1)), (0, .ref a1), (1, .ref a2)]) hx hb dX7_findIn_11 rfl hl (by decide) rfl (fun ls hl => ?_)
  refine lv_iconst (v := 0) hx hb dX7_findIn_12 (by decide) ?_
  refine lv_istore (lv' := [(4, .int 0), (3, .int (-1)), (2, .int (-1)), (0, .ref a1), (1, .ref a2)]) hx hb dX7_findIn_13 hl (by decide) rfl (fun ls hl => ?_)
  refine lv_iload hx hb dX7_findIn_15 (lv_at hl 0 rfl) ?_
  refine lv_bipush (v := 12) hx hb dX7_findIn_17 (by decide) ?_
  refine lv_icmp_ge (tgt := 62) hx hb dX7_findIn_19 (by decide) (fun c_2 => absurd c_2 (by decide)) (fun c_2 => ?_)
  refine lv_iload_n hx hb dX7_findIn_22 rfl (lv_at hl 1 rfl) ?_
  refine lv_iconst (v := (-1)) hx hb dX7_findIn_23 (by decide) ?_
  refine lv_icmp_eq (tgt := 62) hx hb dX7_findIn_24 (by decide) (fun c_3 => ?_) (fun c_3 => absurd (by decide) c_3)
  have hP9 := hP.sub (ws' := [(a2, .inr (10, [.ref a3, .ref a4, .ref a5, .ref a6, .ref a7, .int 0, .int 0])), (a1, .inr (12, [.ref a8, .int 0]))]) [0, 1] rfl
  have hD9 := hD.sub (ws' := [(a2, .inr (10, [.ref a3, .ref a4, .ref a5, .ref a6, .ref a7, .int 0, .int 0])), (a1, .inr (12, [.ref a8, .int 0]))]) [0, 1] (by decide) rfl
  exact W.vret hx hb hr (fun t ht hW => ⟨⟨(), rfl, trivial, ⟨by rw [ht]; exact hP9, hD9⟩⟩, hS.F ht⟩) hS.2.2 dX7_findIn_62
set_option maxHeartbeats 4000000 in
set_option maxRecDepth 100000 in
theorem xcX11_inCircle (l : Launch) (hst : l.stackTraces = false) (dC : Nat → ClassId) (dI : Nat → Nat → Nat) (T : Nat → ClassId) (a1 : Nat) (a2 : Nat) (a3 : Nat) (a4 : Nat) (a5 : Nat) (a6 : Nat) (a7 : Nat) (a8 : Nat) (a9 : Nat) (a10 : Nat) (a11 : Nat) (a12 : Nat) (a13 : Nat) (a14 : Nat) (a15 : Nat) (a16 : Nat) (sz : Nat) (p1 : Int32) (p2 : Int32) (p3 : Int32) (p4 : Int32) : vx_Met l yX11_inCircle wsX11_inCircle ({ frames := 7, cells := 1, slots := 6, locals := 103 } : Room) (va_Pc [.ref a1, .int p1, .int p2, .int p3, .int p4] (fun U => xB dC dI T [(a1, .inr (16, [.ref a2, .ref a3, .ref a4, .ref a5, .ref a6, .ref a7, .ref a8, .ref a9, .ref a10, .ref a11])), (a2, .inr (10, [.ref a12, .ref a13, .ref a14, .ref a15, .ref a16, .int 0, .int 0]))] sz U)) (va_Qi (fun (r u : Int32) => r = u) (fun (u : Int32) (t : State) => False) (va_A [(a1, .inr (16, [.ref a2, .ref a3, .ref a4, .ref a5, .ref a6, .ref a7, .ref a8, .ref a9, .ref a10, .ref a11])), (a2, .inr (10, [.ref a12, .ref a13, .ref a14, .ref a15, .ref a16, .int 0, .int 0]))] sz)) (vx_X (fun _ : Unit => True) (fun (E : String) (_ : Unit) (t : State) => E = "java/lang/IndexOutOfBoundsException" ∧ xE dC dI [] (va_A [(a1, .inr (16, [.ref a2, .ref a3, .ref a4, .ref a5, .ref a6, .ref a7, .ref a8, .ref a9, .ref a10, .ref a11])), (a2, .inr (10, [.ref a12, .ref a13, .ref a14, .ref a15, .ref a16, .int 0, .int 0]))] sz) t) (va_A [(a1, .inr (16, [.ref a2, .ref a3, .ref a4, .ref a5, .ref a6, .ref a7, .ref a8, .ref a9, .ref a10, .ref a11])), (a2, .inr (10, [.ref a12, .ref a13, .ref a14, .ref a15, .ref a16, .int 0, .int 0]))] sz)) 1 6 (va_A [(a1, .inr (16, [.ref a2, .ref a3, .ref a4, .ref a5, .ref a6, .ref a7, .ref a8, .ref a9, .ref a10, .ref a11])), (a2, .inr (10, [.ref a12, .ref a13, .ref a14, .ref a15, .ref a16, .int 0, .int 0]))] sz) := by
  refine vx_ofW (cc := cX11_inCircle) (maxL := 5) (ret := (some .int)) (by decide +kernel) rfl ?_
  intro p e s m args below meth c s₁ B hml hex hv
  obtain ⟨rfl, hsz, hP, hK, hD0, hG⟩ := hv
  have hx := B.exec
  have hb := B.bytes
  have hr := B.returns
  have hts := atoms_spec (ws := wsX11_inCircle) B.pre
  have hown : s.vm.findClass RX11 = some m.cls := findClass_of_methodNamed B.named
  have hlocks := B.notSynchronized
  subst hsz
  have hD := hD0.self (sz := s.heap.size)
  generalize hAe : va_A [(a1, .inr (16, [.ref a2, .ref a3, .ref a4, .ref a5, .ref a6, .ref a7, .ref a8, .ref a9, .ref a10, .ref a11])), (a2, .inr (10, [.ref a12, .ref a13, .ref a14, .ref a15, .ref a16, .int 0, .int 0]))] s.heap.size = A at hD hG ⊢
  have hA : ∀ q : Nat, s.heap.size ≤ q → A q := fun q h => by rw [← hAe]; exact Or.inr h
  have hS : va_S A s.heap s.heap [] := va_S.rf
  have hl := lv_entry ([.ref a1, .int p1, .int p2, .int p3, .int p4]) (n := 5) (Nat.le_of_ble_eq_true rfl)
  rw [lg_entry_eq]
  generalize (lg_sl ([.ref a1, .int p1, .int p2, .int p3, .int p4]) ++ List.replicate (5 - (lg_sl ([.ref a1, .int p1, .int p2, .int p3, .int p4])).length) Slot.unset).toArray = ls at hl ⊢
  have hl : lv_has ls 5 [(0, .ref a1), (1, .int p1), (2, .int p2), (3, .int p3), (4, .int p4)] := hl
  refine lv_aload_n hx hb dX11_inCircle_0 rfl (lv_at hl 0 rfl) ?_
  refine lv_iload_n hx hb dX11_inCircle_1 rfl (lv_at hl 1 rfl) ?_
  have hPc := hP.sub (ws' := [(a1, .inr (16, [.ref a2, .ref a3, .ref a4, .ref a5, .ref a6, .ref a7, .ref a8, .ref a9, .ref a10, .ref a11])), (a2, .inr (10, [.ref a12, .ref a13, .ref a14, .ref a15, .ref a16, .int 0, .int 0]))]) [0, 1] rfl
  have hDc := hD.sub (ws' := [(a1, .inr (16, [.ref a2, .ref a3, .ref a4, .ref a5, .ref a6, .ref a7, .ref a8, .ref a9, .ref a10, .ref a11])), (a2, .inr (10, [.ref a12, .ref a13, .ref a14, .ref a15, .ref a16, .int 0, .int 0]))]) [0, 1] (by decide) rfl
  have hFc := va_free (wc := [(a1, .inr (16, [.ref a2, .ref a3, .ref a4, .ref a5, .ref a6, .ref a7, .ref a8, .ref a9, .ref a10, .ref a11])), (a2, .inr (10, [.ref a12, .ref a13, .ref a14, .ref a15, .ref a16, .int 0, .int 0]))]) hD hS hA [0, 1] rfl
  refine vx_callv (vx_runV (As := [.int p1]) (rest := []) ⟨hx, hb, hml, hown, hts⟩ (xcX11_needPoint l hst dC dI T a1 a2 a3 a4 a5 a6 a7 a8 a9 a10 a11 a12 a13 a14 a15 a16 s.heap.size p1) (cwV 1 hts gX11_inCircle_X11_needPoint rfl rfl rfl (by decide +kernel) ⟨Nat.le_of_ble_eq_true rfl, Nat.le_of_ble_eq_true rfl⟩) ⟨xBlind, va_recv hK hPc (ci := 16) (q0 := 0) rfl rfl, xCall hK hG hS hPc hDc hFc⟩ rfl rfl hl.1 rfl (lv_room (Nat.le_of_ble_eq_true rfl)) dX11_inCircle_2 ⟨Nat.le_of_ble_eq_true rfl, Nat.le_of_ble_eq_true rfl⟩) hS (fun q _ h => hFc q h) hFc (fun q _ h => hFc q h) (fun E ce q9 u t H locs ht hvm hw hB hz1 hk1 hS hce hcv hcl => ?_) (fun u t H locs ht hvm hw hB hz1 hk1 hS => ?_)
  · rcases hB with ⟨hE, hP1, hD1⟩
    subst hE
    rw [ht] at hP1
    obtain ⟨hP, hD⟩ := va_join (wr := []) (w1 := [(a1, .inr (16, [.ref a2, .ref a3, .ref a4, .ref a5, .ref a6, .ref a7, .ref a8, .ref a9, .ref a10, .ref a11])), (a2, .inr (10, [.ref a12, .ref a13, .ref a14, .ref a15, .ref a16, .int 0, .int 0]))]) hP hD [0, 1] [] rfl rfl (by decide) (by decide) hk1 hFc hP1 hD1
    have hP : va_P (dC, dI) vwCl [(a1, .inr (16, [.ref a2, .ref a3, .ref a4, .ref a5, .ref a6, .ref a7, .ref a8, .ref a9, .ref a10, .ref a11])), (a2, .inr (10, [.ref a12, .ref a13, .ref a14, .ref a15, .ref a16, .int 0, .int 0]))] H := hP
    have hD : va_D A [(a1, .inr (16, [.ref a2, .ref a3, .ref a4, .ref a5, .ref a6, .ref a7, .ref a8, .ref a9, .ref a10, .ref a11])), (a2, .inr (10, [.ref a12, .ref a13, .ref a14, .ref a15, .ref a16, .int 0, .int 0]))] := hD
    clear hPc hDc hFc hP1 hD1 hk1 hz1 ht hvm
    have hP9 := hP.sub (ws' := []) [] rfl
    have hD9 := hD.sub (ws' := []) [] (by decide) rfl
    exact vx_out (fun x hx => absurd (hex x hx) id) hlocks hce hcv hcl (fun t ht _ => ⟨(), trivial, ⟨rfl, by rw [ht]; exact hP9, hD9⟩, hS.F ht⟩) hS.2.2 (Nat.le_of_ble_eq_true rfl) (Nat.le_of_ble_eq_true rfl)
  · exact absurd hB id
set_option maxHeartbeats 4000000 in
set_option maxRecDepth 100000 in
theorem xcL_inCircle (l : Launch) (hst : l.stackTraces = false) (dC : Nat → ClassId) (dI : Nat → Nat → Nat) (T : Nat → ClassId) (a1 : Nat) (a2 : Nat) (a3 : Nat) (a4 : Nat) (a5 : Nat) (a6 : Nat) (a7 : Nat) (a8 : Nat) (a9 : Nat) (a10 : Nat) (a11 : Nat) (a12 : Nat) (a13 : Nat) (a14 : Nat) (a15 : Nat) (a16 : Nat) (a17 : Nat) (sz : Nat) (p1 : Int32) (p2 : Int32) (p3 : Int32) (p4 : Int32) : Met l yL_inCircle wsL_inCircle ({ frames := 8, cells := 1, slots := 6, locals := 127 } : Room) (va_Pc [.ref a1, .int p1, .int p2, .int p3, .int p4, .ref a2] (fun U => xB dC dI T [(a1, .inr (16, [.ref a3, .ref a4, .ref a5, .ref a6, .ref a7, .ref a8, .ref a9, .ref a10, .ref a11, .ref a12])), (a3, .inr (10, [.ref a13, .ref a14, .ref a15, .ref a16, .ref a17, .int 0, .int 0]))] sz U)) (va_Qi (fun (r u : Int32) => r = u) (fun (u : Int32) (t : State) => 1 = u ∧ xE dC dI [] (va_A [(a1, .inr (16, [.ref a3, .ref a4, .ref a5, .ref a6, .ref a7, .ref a8, .ref a9, .ref a10, .ref a11, .ref a12])), (a3, .inr (10, [.ref a13, .ref a14, .ref a15, .ref a16, .ref a17, .int 0, .int 0]))] sz) t) (va_A [(a1, .inr (16, [.ref a3, .ref a4, .ref a5, .ref a6, .ref a7, .ref a8, .ref a9, .ref a10, .ref a11, .ref a12])), (a3, .inr (10, [.ref a13, .ref a14, .ref a15, .ref a16, .ref a17, .int 0, .int 0]))] sz)) 1 6 (va_A [(a1, .inr (16, [.ref a3, .ref a4, .ref a5, .ref a6, .ref a7, .ref a8, .ref a9, .ref a10, .ref a11, .ref a12])), (a3, .inr (10, [.ref a13, .ref a14, .ref a15, .ref a16, .ref a17, .int 0, .int 0]))] sz) := by
  refine va_MetW (cc := cL_inCircle) (maxL := 7) (ret := (some .int)) (hh := [(0, 14, 17, 23), (0, 14, 21, 15)]) (by decide +kernel) rfl ?_
  intro p e s m args below meth c s₁ B hml hv
  obtain ⟨rfl, hsz, hP, hK, hD0, hG⟩ := hv
  have hx := B.exec
  have hb := B.bytes
  have hr := B.returns
  have hts := atoms_spec (ws := wsL_inCircle) B.pre
  have hown : s.vm.findClass RL = some m.cls := findClass_of_methodNamed B.named
  have hlocks := B.notSynchronized
  have htab := vx_table (x := yL_inCircle) B (hts (.codeWith yL_inCircle cL_inCircle 7 (some .int) [(0, 14, 17, 23), (0, 14, 21, 15)]) (by decide +kernel))
  subst hsz
  have hD := hD0.self (sz := s.heap.size)
  generalize hAe : va_A [(a1, .inr (16, [.ref a3, .ref a4, .ref a5, .ref a6, .ref a7, .ref a8, .ref a9, .ref a10, .ref a11, .ref a12])), (a3, .inr (10, [.ref a13, .ref a14, .ref a15, .ref a16, .ref a17, .int 0, .int 0]))] s.heap.size = A at hD hG ⊢
  have hA : ∀ q : Nat, s.heap.size ≤ q → A q := fun q h => by rw [← hAe]; exact Or.inr h
  have hS : va_S A s.heap s.heap [] := va_S.rf
  have hl := lv_entry ([.ref a1, .int p1, .int p2, .int p3, .int p4, .ref a2]) (n := 7) (Nat.le_of_ble_eq_true rfl)
  rw [lg_entry_eq]
  generalize (lg_sl ([.ref a1, .int p1, .int p2, .int p3, .int p4, .ref a2]) ++ List.replicate (7 - (lg_sl ([.ref a1, .int p1, .int p2, .int p3, .int p4, .ref a2])).length) Slot.unset).toArray = ls at hl ⊢
  have hl : lv_has ls 7 [(0, .ref a1), (1, .int p1), (2, .int p2), (3, .int p3), (4, .int p4), (5, .ref a2)] := hl
  refine lv_aload hx hb dL_inCircle_0 (lv_at hl 5 rfl) ?_
  refine lv_iconst (v := 0) hx hb dL_inCircle_2 (by decide) ?_
  refine lv_aload_n hx hb dL_inCircle_3 rfl (lv_at hl 0 rfl) ?_
  refine lv_iload_n hx hb dL_inCircle_4 rfl (lv_at hl 1 rfl) ?_
  refine lv_iload_n hx hb dL_inCircle_5 rfl (lv_at hl 2 rfl) ?_
  refine lv_iload_n hx hb dL_inCircle_6 rfl (lv_at hl 3 rfl) ?_
  refine lv_iload hx hb dL_inCircle_7 (lv_at hl 4 rfl) ?_
  have hPc := hP.sub (ws' := [(a1, .inr (16, [.ref a3, .ref a4, .ref a5, .ref a6, .ref a7, .ref a8, .ref a9, .ref a10, .ref a11, .ref a12])), (a3, .inr (10, [.ref a13, .ref a14, .ref a15, .ref a16, .ref a17, .int 0, .int 0]))]) [0, 1] rfl
  have hDc := hD.sub (ws' := [(a1, .inr (16, [.ref a3, .ref a4, .ref a5, .ref a6, .ref a7, .ref a8, .ref a9, .ref a10, .ref a11, .ref a12])), (a3, .inr (10, [.ref a13, .ref a14, .ref a15, .ref a16, .ref a17, .int 0, .int 0]))]) [0, 1] (by decide) rfl
  have hFc := va_free (wc := [(a1, .inr (16, [.ref a3, .ref a4, .ref a5, .ref a6, .ref a7, .ref a8, .ref a9, .ref a10, .ref a11, .ref a12])), (a3, .inr (10, [.ref a13, .ref a14, .ref a15, .ref a16, .ref a17, .int 0, .int 0]))]) hD hS hA [0, 1] rfl
  refine vx_calli (vx_runV (As := [.int p1, .int p2, .int p3, .int p4]) (rest := [.int 0, .ref a2]) ⟨hx, hb, hml, hown, hts⟩ (xcX11_inCircle l hst dC dI T a1 a3 a4 a5 a6 a7 a8 a9 a10 a11 a12 a13 a14 a15 a16 a17 s.heap.size p1 p2 p3 p4) (cwV 4 hts gL_inCircle_X11_inCircle rfl rfl rfl (by decide +kernel) ⟨Nat.le_of_ble_eq_true rfl, Nat.le_of_ble_eq_true rfl⟩) ⟨xBlind, va_recv hK hPc (ci := 16) (q0 := 0) rfl rfl, xCall hK hG hS hPc hDc hFc⟩ rfl rfl hl.1 rfl (lv_room (Nat.le_of_ble_eq_true rfl)) dL_inCircle_9 ⟨Nat.le_of_ble_eq_true rfl, Nat.le_of_ble_eq_true rfl⟩) hS (fun q _ h => hFc q h) hFc (fun q _ h => hFc q h) (fun E ce q9 u t H locs ht hvm hw hB hz1 hk1 hS hce hcv hcl => ?_) (fun r_9 u t H locs ht hvm hw hB hz1 hk1 hS => ?_)
  · rcases hB with ⟨hE, hP1, hD1⟩
    subst hE
    rw [ht] at hP1
    obtain ⟨hP, hD⟩ := va_join (wr := []) (w1 := []) hP hD [0, 1] [] rfl rfl (by decide) (by decide) hk1 hFc hP1 hD1
    have hP : va_P (dC, dI) vwCl [] H := hP
    have hD : va_D A [] := hD
    clear hPc hDc hFc hP1 hD1 hk1 hz1 ht hvm
    refine vx_catch (E := "java/lang/IndexOutOfBoundsException") (name := "java/lang/IndexOutOfBoundsException") hown [] ⟨0, 14, 17, 23⟩ [⟨0, 14, 21, 15⟩] (htab.trans rfl) (fun _ h => absurd h List.not_mem_nil) (by decide) (by decide) (hts (.classLink RL 23 "java/lang/IndexOutOfBoundsException") (by decide +kernel)) (xBad_use hG.2.2.2.1 _ (by decide +kernel)) hce hcv hcl ?_
    refine lv_astore (lv' := [(6, .ref q9), (0, .ref a1), (1, .int p1), (2, .int p2), (3, .int p3), (4, .int p4), (5, .ref a2)]) hx hb dL_inCircle_17 hl (by decide) rfl (fun ls hl => ?_)
    refine lv_iconst (v := 1) hx hb dL_inCircle_19 (by decide) ?_
    have hP9 := hP.sub (ws' := []) [] rfl
    have hD9 := hD.sub (ws' := []) [] (by decide) rfl
    exact W.iret (v := 1) hx hb hr (fun t ht hW => ⟨⟨_, _, rfl, rfl, ⟨rfl, by rw [ht]; exact hP9, hD9⟩⟩, hS.F ht⟩) hS.2.2 dL_inCircle_20
  · exact absurd hB id
set_option maxHeartbeats 4000000 in
set_option maxRecDepth 100000 in
theorem xcX11_isJoined (l : Launch) (hst : l.stackTraces = false) (dC : Nat → ClassId) (dI : Nat → Nat → Nat) (T : Nat → ClassId) (a1 : Nat) (a2 : Nat) (a3 : Nat) (a4 : Nat) (a5 : Nat) (a6 : Nat) (a7 : Nat) (a8 : Nat) (a9 : Nat) (a10 : Nat) (a11 : Nat) (a12 : Nat) (a13 : Nat) (a14 : Nat) (a15 : Nat) (a16 : Nat) (sz : Nat) (p1 : Int32) (p2 : Int32) (p3 : Int32) : vx_Met l yX11_isJoined wsX11_isJoined ({ frames := 7, cells := 1, slots := 6, locals := 103 } : Room) (va_Pc [.ref a1, .int p1, .int p2, .int p3] (fun U => xB dC dI T [(a1, .inr (16, [.ref a2, .ref a3, .ref a4, .ref a5, .ref a6, .ref a7, .ref a8, .ref a9, .ref a10, .ref a11])), (a2, .inr (10, [.ref a12, .ref a13, .ref a14, .ref a15, .ref a16, .int 0, .int 0]))] sz U)) (va_Qi (fun (r u : Int32) => r = u) (fun (u : Int32) (t : State) => False) (va_A [(a1, .inr (16, [.ref a2, .ref a3, .ref a4, .ref a5, .ref a6, .ref a7, .ref a8, .ref a9, .ref a10, .ref a11])), (a2, .inr (10, [.ref a12, .ref a13, .ref a14, .ref a15, .ref a16, .int 0, .int 0]))] sz)) (vx_X (fun _ : Unit => True) (fun (E : String) (_ : Unit) (t : State) => E = "java/lang/IndexOutOfBoundsException" ∧ xE dC dI [] (va_A [(a1, .inr (16, [.ref a2, .ref a3, .ref a4, .ref a5, .ref a6, .ref a7, .ref a8, .ref a9, .ref a10, .ref a11])), (a2, .inr (10, [.ref a12, .ref a13, .ref a14, .ref a15, .ref a16, .int 0, .int 0]))] sz) t) (va_A [(a1, .inr (16, [.ref a2, .ref a3, .ref a4, .ref a5, .ref a6, .ref a7, .ref a8, .ref a9, .ref a10, .ref a11])), (a2, .inr (10, [.ref a12, .ref a13, .ref a14, .ref a15, .ref a16, .int 0, .int 0]))] sz)) 1 6 (va_A [(a1, .inr (16, [.ref a2, .ref a3, .ref a4, .ref a5, .ref a6, .ref a7, .ref a8, .ref a9, .ref a10, .ref a11])), (a2, .inr (10, [.ref a12, .ref a13, .ref a14, .ref a15, .ref a16, .int 0, .int 0]))] sz) := by
  refine vx_ofW (cc := cX11_isJoined) (maxL := 4) (ret := (some .boolean)) (by decide +kernel) rfl ?_
  intro p e s m args below meth c s₁ B hml hex hv
  obtain ⟨rfl, hsz, hP, hK, hD0, hG⟩ := hv
  have hx := B.exec
  have hb := B.bytes
  have hr := B.returns
  have hts := atoms_spec (ws := wsX11_isJoined) B.pre
  have hown : s.vm.findClass RX11 = some m.cls := findClass_of_methodNamed B.named
  have hlocks := B.notSynchronized
  subst hsz
  have hD := hD0.self (sz := s.heap.size)
  generalize hAe : va_A [(a1, .inr (16, [.ref a2, .ref a3, .ref a4, .ref a5, .ref a6, .ref a7, .ref a8, .ref a9, .ref a10, .ref a11])), (a2, .inr (10, [.ref a12, .ref a13, .ref a14, .ref a15, .ref a16, .int 0, .int 0]))] s.heap.size = A at hD hG ⊢
  have hA : ∀ q : Nat, s.heap.size ≤ q → A q := fun q h => by rw [← hAe]; exact Or.inr h
  have hS : va_S A s.heap s.heap [] := va_S.rf
  have hl := lv_entry ([.ref a1, .int p1, .int p2, .int p3]) (n := 4) (Nat.le_of_ble_eq_true rfl)
  rw [lg_entry_eq]
  generalize (lg_sl ([.ref a1, .int p1, .int p2, .int p3]) ++ List.replicate (4 - (lg_sl ([.ref a1, .int p1, .int p2, .int p3])).length) Slot.unset).toArray = ls at hl ⊢
  have hl : lv_has ls 4 [(0, .ref a1), (1, .int p1), (2, .int p2), (3, .int p3)] := hl
  refine lv_aload_n hx hb dX11_isJoined_0 rfl (lv_at hl 0 rfl) ?_
  refine lv_iload_n hx hb dX11_isJoined_1 rfl (lv_at hl 2 rfl) ?_
  have hPc := hP.sub (ws' := [(a1, .inr (16, [.ref a2, .ref a3, .ref a4, .ref a5, .ref a6, .ref a7, .ref a8, .ref a9, .ref a10, .ref a11])), (a2, .inr (10, [.ref a12, .ref a13, .ref a14, .ref a15, .ref a16, .int 0, .int 0]))]) [0, 1] rfl
  have hDc := hD.sub (ws' := [(a1, .inr (16, [.ref a2, .ref a3, .ref a4, .ref a5, .ref a6, .ref a7, .ref a8, .ref a9, .ref a10, .ref a11])), (a2, .inr (10, [.ref a12, .ref a13, .ref a14, .ref a15, .ref a16, .int 0, .int 0]))]) [0, 1] (by decide) rfl
  have hFc := va_free (wc := [(a1, .inr (16, [.ref a2, .ref a3, .ref a4, .ref a5, .ref a6, .ref a7, .ref a8, .ref a9, .ref a10, .ref a11])), (a2, .inr (10, [.ref a12, .ref a13, .ref a14, .ref a15, .ref a16, .int 0, .int 0]))]) hD hS hA [0, 1] rfl
  refine vx_callv (vx_runV (As := [.int p2]) (rest := []) ⟨hx, hb, hml, hown, hts⟩ (xcX11_needPoint l hst dC dI T a1 a2 a3 a4 a5 a6 a7 a8 a9 a10 a11 a12 a13 a14 a15 a16 s.heap.size p2) (cwV 1 hts gX11_isJoined_X11_needPoint rfl rfl rfl (by decide +kernel) ⟨Nat.le_of_ble_eq_true rfl, Nat.le_of_ble_eq_true rfl⟩) ⟨xBlind, va_recv hK hPc (ci := 16) (q0 := 0) rfl rfl, xCall hK hG hS hPc hDc hFc⟩ rfl rfl hl.1 rfl (lv_room (Nat.le_of_ble_eq_true rfl)) dX11_isJoined_2 ⟨Nat.le_of_ble_eq_true rfl, Nat.le_of_ble_eq_true rfl⟩) hS (fun q _ h => hFc q h) hFc (fun q _ h => hFc q h) (fun E ce q9 u t H locs ht hvm hw hB hz1 hk1 hS hce hcv hcl => ?_) (fun u t H locs ht hvm hw hB hz1 hk1 hS => ?_)
  · rcases hB with ⟨hE, hP1, hD1⟩
    subst hE
    rw [ht] at hP1
    obtain ⟨hP, hD⟩ := va_join (wr := []) (w1 := [(a1, .inr (16, [.ref a2, .ref a3, .ref a4, .ref a5, .ref a6, .ref a7, .ref a8, .ref a9, .ref a10, .ref a11])), (a2, .inr (10, [.ref a12, .ref a13, .ref a14, .ref a15, .ref a16, .int 0, .int 0]))]) hP hD [0, 1] [] rfl rfl (by decide) (by decide) hk1 hFc hP1 hD1
    have hP : va_P (dC, dI) vwCl [(a1, .inr (16, [.ref a2, .ref a3, .ref a4, .ref a5, .ref a6, .ref a7, .ref a8, .ref a9, .ref a10, .ref a11])), (a2, .inr (10, [.ref a12, .ref a13, .ref a14, .ref a15, .ref a16, .int 0, .int 0]))] H := hP
    have hD : va_D A [(a1, .inr (16, [.ref a2, .ref a3, .ref a4, .ref a5, .ref a6, .ref a7, .ref a8, .ref a9, .ref a10, .ref a11])), (a2, .inr (10, [.ref a12, .ref a13, .ref a14, .ref a15, .ref a16, .int 0, .int 0]))] := hD
    clear hPc hDc hFc hP1 hD1 hk1 hz1 ht hvm
    have hP9 := hP.sub (ws' := []) [] rfl
    have hD9 := hD.sub (ws' := []) [] (by decide) rfl
    exact vx_out (fun x hx => absurd (hex x hx) id) hlocks hce hcv hcl (fun t ht _ => ⟨(), trivial, ⟨rfl, by rw [ht]; exact hP9, hD9⟩, hS.F ht⟩) hS.2.2 (Nat.le_of_ble_eq_true rfl) (Nat.le_of_ble_eq_true rfl)
  · exact absurd hB id
set_option maxHeartbeats 4000000 in
set_option maxRecDepth 100000 in
theorem xcL_isJoined (l : Launch) (hst : l.stackTraces = false) (dC : Nat → ClassId) (dI : Nat → Nat → Nat) (T : Nat → ClassId) (a1 : Nat) (a2 : Nat) (a3 : Nat) (a4 : Nat) (a5 : Nat) (a6 : Nat) (a7 : Nat) (a8 : Nat) (a9 : Nat) (a10 : Nat) (a11 : Nat) (a12 : Nat) (a13 : Nat) (a14 : Nat) (a15 : Nat) (a16 : Nat) (a17 : Nat) (sz : Nat) (p1 : Int32) (p2 : Int32) (p3 : Int32) : Met l yL_isJoined wsL_isJoined ({ frames := 8, cells := 1, slots := 6, locals := 126 } : Room) (va_Pc [.ref a1, .int p1, .int p2, .int p3, .ref a2] (fun U => xB dC dI T [(a1, .inr (16, [.ref a3, .ref a4, .ref a5, .ref a6, .ref a7, .ref a8, .ref a9, .ref a10, .ref a11, .ref a12])), (a3, .inr (10, [.ref a13, .ref a14, .ref a15, .ref a16, .ref a17, .int 0, .int 0]))] sz U)) (va_Qi (fun (r u : Int32) => r = u) (fun (u : Int32) (t : State) => 1 = u ∧ xE dC dI [] (va_A [(a1, .inr (16, [.ref a3, .ref a4, .ref a5, .ref a6, .ref a7, .ref a8, .ref a9, .ref a10, .ref a11, .ref a12])), (a3, .inr (10, [.ref a13, .ref a14, .ref a15, .ref a16, .ref a17, .int 0, .int 0]))] sz) t) (va_A [(a1, .inr (16, [.ref a3, .ref a4, .ref a5, .ref a6, .ref a7, .ref a8, .ref a9, .ref a10, .ref a11, .ref a12])), (a3, .inr (10, [.ref a13, .ref a14, .ref a15, .ref a16, .ref a17, .int 0, .int 0]))] sz)) 1 6 (va_A [(a1, .inr (16, [.ref a3, .ref a4, .ref a5, .ref a6, .ref a7, .ref a8, .ref a9, .ref a10, .ref a11, .ref a12])), (a3, .inr (10, [.ref a13, .ref a14, .ref a15, .ref a16, .ref a17, .int 0, .int 0]))] sz) := by
  refine va_MetW (cc := cL_isJoined) (maxL := 6) (ret := (some .int)) (hh := [(0, 19, 22, 23), (0, 19, 26, 13)]) (by decide +kernel) rfl ?_
  intro p e s m args below meth c s₁ B hml hv
  obtain ⟨rfl, hsz, hP, hK, hD0, hG⟩ := hv
  have hx := B.exec
  have hb := B.bytes
  have hr := B.returns
  have hts := atoms_spec (ws := wsL_isJoined) B.pre
  have hown : s.vm.findClass RL = some m.cls := findClass_of_methodNamed B.named
  have hlocks := B.notSynchronized
  have htab := vx_table (x := yL_isJoined) B (hts (.codeWith yL_isJoined cL_isJoined 6 (some .int) [(0, 19, 22, 23), (0, 19, 26, 13)]) (by decide +kernel))
  subst hsz
  have hD := hD0.self (sz := s.heap.size)
  generalize hAe : va_A [(a1, .inr (16, [.ref a3, .ref a4, .ref a5, .ref a6, .ref a7, .ref a8, .ref a9, .ref a10, .ref a11, .ref a12])), (a3, .inr (10, [.ref a13, .ref a14, .ref a15, .ref a16, .ref a17, .int 0, .int 0]))] s.heap.size = A at hD hG ⊢
  have hA : ∀ q : Nat, s.heap.size ≤ q → A q := fun q h => by rw [← hAe]; exact Or.inr h
  have hS : va_S A s.heap s.heap [] := va_S.rf
  have hl := lv_entry ([.ref a1, .int p1, .int p2, .int p3, .ref a2]) (n := 6) (Nat.le_of_ble_eq_true rfl)
  rw [lg_entry_eq]
  generalize (lg_sl ([.ref a1, .int p1, .int p2, .int p3, .ref a2]) ++ List.replicate (6 - (lg_sl ([.ref a1, .int p1, .int p2, .int p3, .ref a2])).length) Slot.unset).toArray = ls at hl ⊢
  have hl : lv_has ls 6 [(0, .ref a1), (1, .int p1), (2, .int p2), (3, .int p3), (4, .ref a2)] := hl
  refine lv_aload hx hb dL_isJoined_0 (lv_at hl 4 rfl) ?_
  refine lv_iconst (v := 0) hx hb dL_isJoined_2 (by decide) ?_
  refine lv_aload_n hx hb dL_isJoined_3 rfl (lv_at hl 0 rfl) ?_
  refine lv_iload_n hx hb dL_isJoined_4 rfl (lv_at hl 1 rfl) ?_
  refine lv_iload_n hx hb dL_isJoined_5 rfl (lv_at hl 2 rfl) ?_
  refine lv_iload_n hx hb dL_isJoined_6 rfl (lv_at hl 3 rfl) ?_
  have hPc := hP.sub (ws' := [(a1, .inr (16, [.ref a3, .ref a4, .ref a5, .ref a6, .ref a7, .ref a8, .ref a9, .ref a10, .ref a11, .ref a12])), (a3, .inr (10, [.ref a13, .ref a14, .ref a15, .ref a16, .ref a17, .int 0, .int 0]))]) [0, 1] rfl
  have hDc := hD.sub (ws' := [(a1, .inr (16, [.ref a3, .ref a4, .ref a5, .ref a6, .ref a7, .ref a8, .ref a9, .ref a10, .ref a11, .ref a12])), (a3, .inr (10, [.ref a13, .ref a14, .ref a15, .ref a16, .ref a17, .int 0, .int 0]))]) [0, 1] (by decide) rfl
  have hFc := va_free (wc := [(a1, .inr (16, [.ref a3, .ref a4, .ref a5, .ref a6, .ref a7, .ref a8, .ref a9, .ref a10, .ref a11, .ref a12])), (a3, .inr (10, [.ref a13, .ref a14, .ref a15, .ref a16, .ref a17, .int 0, .int 0]))]) hD hS hA [0, 1] rfl
  refine vx_calli (vx_runV (As := [.int p1, .int p2, .int p3]) (rest := [.int 0, .ref a2]) ⟨hx, hb, hml, hown, hts⟩ (xcX11_isJoined l hst dC dI T a1 a3 a4 a5 a6 a7 a8 a9 a10 a11 a12 a13 a14 a15 a16 a17 s.heap.size p1 p2 p3) (cwV 3 hts gL_isJoined_X11_isJoined rfl rfl rfl (by decide +kernel) ⟨Nat.le_of_ble_eq_true rfl, Nat.le_of_ble_eq_true rfl⟩) ⟨xBlind, va_recv hK hPc (ci := 16) (q0 := 0) rfl rfl, xCall hK hG hS hPc hDc hFc⟩ rfl rfl hl.1 rfl (lv_room (Nat.le_of_ble_eq_true rfl)) dL_isJoined_7 ⟨Nat.le_of_ble_eq_true rfl, Nat.le_of_ble_eq_true rfl⟩) hS (fun q _ h => hFc q h) hFc (fun q _ h => hFc q h) (fun E ce q9 u t H locs ht hvm hw hB hz1 hk1 hS hce hcv hcl => ?_) (fun r_9 u t H locs ht hvm hw hB hz1 hk1 hS => ?_)
  · rcases hB with ⟨hE, hP1, hD1⟩
    subst hE
    rw [ht] at hP1
    obtain ⟨hP, hD⟩ := va_join (wr := []) (w1 := []) hP hD [0, 1] [] rfl rfl (by decide) (by decide) hk1 hFc hP1 hD1
    have hP : va_P (dC, dI) vwCl [] H := hP
    have hD : va_D A [] := hD
    clear hPc hDc hFc hP1 hD1 hk1 hz1 ht hvm
    refine vx_catch (E := "java/lang/IndexOutOfBoundsException") (name := "java/lang/IndexOutOfBoundsException") hown [] ⟨0, 19, 22, 23⟩ [⟨0, 19, 26, 13⟩] (htab.trans rfl) (fun _ h => absurd h List.not_mem_nil) (by decide) (by decide) (hts (.classLink RL 23 "java/lang/IndexOutOfBoundsException") (by decide +kernel)) (xBad_use hG.2.2.2.1 _ (by decide +kernel)) hce hcv hcl ?_
    refine lv_astore (lv' := [(5, .ref q9), (0, .ref a1), (1, .int p1), (2, .int p2), (3, .int p3), (4, .ref a2)]) hx hb dL_isJoined_22 hl (by decide) rfl (fun ls hl => ?_)
    refine lv_iconst (v := 1) hx hb dL_isJoined_24 (by decide) ?_
    have hP9 := hP.sub (ws' := []) [] rfl
    have hD9 := hD.sub (ws' := []) [] (by decide) rfl
    exact W.iret (v := 1) hx hb hr (fun t ht hW => ⟨⟨_, _, rfl, rfl, ⟨rfl, by rw [ht]; exact hP9, hD9⟩⟩, hS.F ht⟩) hS.2.2 dL_isJoined_25
  · exact absurd hB id
set_option maxHeartbeats 4000000 in
set_option maxRecDepth 100000 in
theorem xcX11_isTriangle (l : Launch) (hst : l.stackTraces = false) (dC : Nat → ClassId) (dI : Nat → Nat → Nat) (T : Nat → ClassId) (a1 : Nat) (a2 : Nat) (a3 : Nat) (a4 : Nat) (a5 : Nat) (a6 : Nat) (a7 : Nat) (a8 : Nat) (a9 : Nat) (a10 : Nat) (a11 : Nat) (a12 : Nat) (a13 : Nat) (a14 : Nat) (a15 : Nat) (a16 : Nat) (sz : Nat) (p1 : Int32) (p2 : Int32) (p3 : Int32) : vx_Met l yX11_isTriangle wsX11_isTriangle ({ frames := 7, cells := 1, slots := 6, locals := 103 } : Room) (va_Pc [.ref a1, .int p1, .int p2, .int p3] (fun U => xB dC dI T [(a1, .inr (16, [.ref a2, .ref a3, .ref a4, .ref a5, .ref a6, .ref a7, .ref a8, .ref a9, .ref a10, .ref a11])), (a2, .inr (10, [.ref a12, .ref a13, .ref a14, .ref a15, .ref a16, .int 0, .int 0]))] sz U)) (va_Qi (fun (r u : Int32) => r = u) (fun (u : Int32) (t : State) => False) (va_A [(a1, .inr (16, [.ref a2, .ref a3, .ref a4, .ref a5, .ref a6, .ref a7, .ref a8, .ref a9, .ref a10, .ref a11])), (a2, .inr (10, [.ref a12, .ref a13, .ref a14, .ref a15, .ref a16, .int 0, .int 0]))] sz)) (vx_X (fun _ : Unit => True) (fun (E : String) (_ : Unit) (t : State) => E = "java/lang/IndexOutOfBoundsException" ∧ xE dC dI [] (va_A [(a1, .inr (16, [.ref a2, .ref a3, .ref a4, .ref a5, .ref a6, .ref a7, .ref a8, .ref a9, .ref a10, .ref a11])), (a2, .inr (10, [.ref a12, .ref a13, .ref a14, .ref a15, .ref a16, .int 0, .int 0]))] sz) t) (va_A [(a1, .inr (16, [.ref a2, .ref a3, .ref a4, .ref a5, .ref a6, .ref a7, .ref a8, .ref a9, .ref a10, .ref a11])), (a2, .inr (10, [.ref a12, .ref a13, .ref a14, .ref a15, .ref a16, .int 0, .int 0]))] sz)) 1 6 (va_A [(a1, .inr (16, [.ref a2, .ref a3, .ref a4, .ref a5, .ref a6, .ref a7, .ref a8, .ref a9, .ref a10, .ref a11])), (a2, .inr (10, [.ref a12, .ref a13, .ref a14, .ref a15, .ref a16, .int 0, .int 0]))] sz) := by
  refine vx_ofW (cc := cX11_isTriangle) (maxL := 4) (ret := (some .boolean)) (by decide +kernel) rfl ?_
  intro p e s m args below meth c s₁ B hml hex hv
  obtain ⟨rfl, hsz, hP, hK, hD0, hG⟩ := hv
  have hx := B.exec
  have hb := B.bytes
  have hr := B.returns
  have hts := atoms_spec (ws := wsX11_isTriangle) B.pre
  have hown : s.vm.findClass RX11 = some m.cls := findClass_of_methodNamed B.named
  have hlocks := B.notSynchronized
  subst hsz
  have hD := hD0.self (sz := s.heap.size)
  generalize hAe : va_A [(a1, .inr (16, [.ref a2, .ref a3, .ref a4, .ref a5, .ref a6, .ref a7, .ref a8, .ref a9, .ref a10, .ref a11])), (a2, .inr (10, [.ref a12, .ref a13, .ref a14, .ref a15, .ref a16, .int 0, .int 0]))] s.heap.size = A at hD hG ⊢
  have hA : ∀ q : Nat, s.heap.size ≤ q → A q := fun q h => by rw [← hAe]; exact Or.inr h
  have hS : va_S A s.heap s.heap [] := va_S.rf
  have hl := lv_entry ([.ref a1, .int p1, .int p2, .int p3]) (n := 4) (Nat.le_of_ble_eq_true rfl)
  rw [lg_entry_eq]
  generalize (lg_sl ([.ref a1, .int p1, .int p2, .int p3]) ++ List.replicate (4 - (lg_sl ([.ref a1, .int p1, .int p2, .int p3])).length) Slot.unset).toArray = ls at hl ⊢
  have hl : lv_has ls 4 [(0, .ref a1), (1, .int p1), (2, .int p2), (3, .int p3)] := hl
  refine lv_aload_n hx hb dX11_isTriangle_0 rfl (lv_at hl 0 rfl) ?_
  refine lv_iload_n hx hb dX11_isTriangle_1 rfl (lv_at hl 1 rfl) ?_
  have hPc := hP.sub (ws' := [(a1, .inr (16, [.ref a2, .ref a3, .ref a4, .ref a5, .ref a6, .ref a7, .ref a8, .ref a9, .ref a10, .ref a11])), (a2, .inr (10, [.ref a12, .ref a13, .ref a14, .ref a15, .ref a16, .int 0, .int 0]))]) [0, 1] rfl
  have hDc := hD.sub (ws' := [(a1, .inr (16, [.ref a2, .ref a3, .ref a4, .ref a5, .ref a6, .ref a7, .ref a8, .ref a9, .ref a10, .ref a11])), (a2, .inr (10, [.ref a12, .ref a13, .ref a14, .ref a15, .ref a16, .int 0, .int 0]))]) [0, 1] (by decide) rfl
  have hFc := va_free (wc := [(a1, .inr (16, [.ref a2, .ref a3, .ref a4, .ref a5, .ref a6, .ref a7, .ref a8, .ref a9, .ref a10, .ref a11])), (a2, .inr (10, [.ref a12, .ref a13, .ref a14, .ref a15, .ref a16, .int 0, .int 0]))]) hD hS hA [0, 1] rfl
  refine vx_callv (vx_runV (As := [.int p1]) (rest := []) ⟨hx, hb, hml, hown, hts⟩ (xcX11_needPoint l hst dC dI T a1 a2 a3 a4 a5 a6 a7 a8 a9 a10 a11 a12 a13 a14 a15 a16 s.heap.size p1) (cwV 1 hts gX11_isTriangle_X11_needPoint rfl rfl rfl (by decide +kernel) ⟨Nat.le_of_ble_eq_true rfl, Nat.le_of_ble_eq_true rfl⟩) ⟨xBlind, va_recv hK hPc (ci := 16) (q0 := 0) rfl rfl, xCall hK hG hS hPc hDc hFc⟩ rfl rfl hl.1 rfl (lv_room (Nat.le_of_ble_eq_true rfl)) dX11_isTriangle_2 ⟨Nat.le_of_ble_eq_true rfl, Nat.le_of_ble_eq_true rfl⟩) hS (fun q _ h => hFc q h) hFc (fun q _ h => hFc q h) (fun E ce q9 u t H locs ht hvm hw hB hz1 hk1 hS hce hcv hcl => ?_) (fun u t H locs ht hvm hw hB hz1 hk1 hS => ?_)
  · rcases hB with ⟨hE, hP1, hD1⟩
    subst hE
    rw [ht] at hP1
    obtain ⟨hP, hD⟩ := va_join (wr := []) (w1 := [(a1, .inr (16, [.ref a2, .ref a3, .ref a4, .ref a5, .ref a6, .ref a7, .ref a8, .ref a9, .ref a10, .ref a11])), (a2, .inr (10, [.ref a12, .ref a13, .ref a14, .ref a15, .ref a16, .int 0, .int 0]))]) hP hD [0, 1] [] rfl rfl (by decide) (by decide) hk1 hFc hP1 hD1
    have hP : va_P (dC, dI) vwCl [(a1, .inr (16, [.ref a2, .ref a3, .ref a4, .ref a5, .ref a6, .ref a7, .ref a8, .ref a9, .ref a10, .ref a11])), (a2, .inr (10, [.ref a12, .ref a13, .ref a14, .ref a15, .ref a16, .int 0, .int 0]))] H := hP
    have hD : va_D A [(a1, .inr (16, [.ref a2, .ref a3, .ref a4, .ref a5, .ref a6, .ref a7, .ref a8, .ref a9, .ref a10, .ref a11])), (a2, .inr (10, [.ref a12, .ref a13, .ref a14, .ref a15, .ref a16, .int 0, .int 0]))] := hD
    clear hPc hDc hFc hP1 hD1 hk1 hz1 ht hvm
    have hP9 := hP.sub (ws' := []) [] rfl
    have hD9 := hD.sub (ws' := []) [] (by decide) rfl
    exact vx_out (fun x hx => absurd (hex x hx) id) hlocks hce hcv hcl (fun t ht _ => ⟨(), trivial, ⟨rfl, by rw [ht]; exact hP9, hD9⟩, hS.F ht⟩) hS.2.2 (Nat.le_of_ble_eq_true rfl) (Nat.le_of_ble_eq_true rfl)
  · exact absurd hB id
set_option maxHeartbeats 4000000 in
set_option maxRecDepth 100000 in
theorem xcL_isTriangle (l : Launch) (hst : l.stackTraces = false) (dC : Nat → ClassId) (dI : Nat → Nat → Nat) (T : Nat → ClassId) (a1 : Nat) (a2 : Nat) (a3 : Nat) (a4 : Nat) (a5 : Nat) (a6 : Nat) (a7 : Nat) (a8 : Nat) (a9 : Nat) (a10 : Nat) (a11 : Nat) (a12 : Nat) (a13 : Nat) (a14 : Nat) (a15 : Nat) (a16 : Nat) (a17 : Nat) (sz : Nat) (p1 : Int32) (p2 : Int32) (p3 : Int32) : Met l yL_isTriangle wsL_isTriangle ({ frames := 8, cells := 1, slots := 6, locals := 126 } : Room) (va_Pc [.ref a1, .int p1, .int p2, .int p3, .ref a2] (fun U => xB dC dI T [(a1, .inr (16, [.ref a3, .ref a4, .ref a5, .ref a6, .ref a7, .ref a8, .ref a9, .ref a10, .ref a11, .ref a12])), (a3, .inr (10, [.ref a13, .ref a14, .ref a15, .ref a16, .ref a17, .int 0, .int 0]))] sz U)) (va_Qi (fun (r u : Int32) => r = u) (fun (u : Int32) (t : State) => 1 = u ∧ xE dC dI [] (va_A [(a1, .inr (16, [.ref a3, .ref a4, .ref a5, .ref a6, .ref a7, .ref a8, .ref a9, .ref a10, .ref a11, .ref a12])), (a3, .inr (10, [.ref a13, .ref a14, .ref a15, .ref a16, .ref a17, .int 0, .int 0]))] sz) t) (va_A [(a1, .inr (16, [.ref a3, .ref a4, .ref a5, .ref a6, .ref a7, .ref a8, .ref a9, .ref a10, .ref a11, .ref a12])), (a3, .inr (10, [.ref a13, .ref a14, .ref a15, .ref a16, .ref a17, .int 0, .int 0]))] sz)) 1 6 (va_A [(a1, .inr (16, [.ref a3, .ref a4, .ref a5, .ref a6, .ref a7, .ref a8, .ref a9, .ref a10, .ref a11, .ref a12])), (a3, .inr (10, [.ref a13, .ref a14, .ref a15, .ref a16, .ref a17, .int 0, .int 0]))] sz) := by
  refine va_MetW (cc := cL_isTriangle) (maxL := 6) (ret := (some .int)) (hh := [(0, 19, 22, 23)]) (by decide +kernel) rfl ?_
  intro p e s m args below meth c s₁ B hml hv
  obtain ⟨rfl, hsz, hP, hK, hD0, hG⟩ := hv
  have hx := B.exec
  have hb := B.bytes
  have hr := B.returns
  have hts := atoms_spec (ws := wsL_isTriangle) B.pre
  have hown : s.vm.findClass RL = some m.cls := findClass_of_methodNamed B.named
  have hlocks := B.notSynchronized
  have htab := vx_table (x := yL_isTriangle) B (hts (.codeWith yL_isTriangle cL_isTriangle 6 (some .int) [(0, 19, 22, 23)]) (by decide +kernel))
  subst hsz
  have hD := hD0.self (sz := s.heap.size)
  generalize hAe : va_A [(a1, .inr (16, [.ref a3, .ref a4, .ref a5, .ref a6, .ref a7, .ref a8, .ref a9, .ref a10, .ref a11, .ref a12])), (a3, .inr (10, [.ref a13, .ref a14, .ref a15, .ref a16, .ref a17, .int 0, .int 0]))] s.heap.size = A at hD hG ⊢
  have hA : ∀ q : Nat, s.heap.size ≤ q → A q := fun q h => by rw [← hAe]; exact Or.inr h
  have hS : va_S A s.heap s.heap [] := va_S.rf
  have hl := lv_entry ([.ref a1, .int p1, .int p2, .int p3, .ref a2]) (n := 6) (Nat.le_of_ble_eq_true rfl)
  rw [lg_entry_eq]
  generalize (lg_sl ([.ref a1, .int p1, .int p2, .int p3, .ref a2]) ++ List.replicate (6 - (lg_sl ([.ref a1, .int p1, .int p2, .int p3, .ref a2])).length) Slot.unset).toArray = ls at hl ⊢
  have hl : lv_has ls 6 [(0, .ref a1), (1, .int p1), (2, .int p2), (3, .int p3), (4, .ref a2)] := hl
  refine lv_aload hx hb dL_isTriangle_0 (lv_at hl 4 rfl) ?_
  refine lv_iconst (v := 0) hx hb dL_isTriangle_2 (by decide) ?_
  refine lv_aload_n hx hb dL_isTriangle_3 rfl (lv_at hl 0 rfl) ?_
  refine lv_iload_n hx hb dL_isTriangle_4 rfl (lv_at hl 1 rfl) ?_
  refine lv_iload_n hx hb dL_isTriangle_5 rfl (lv_at hl 2 rfl) ?_
  refine lv_iload_n hx hb dL_isTriangle_6 rfl (lv_at hl 3 rfl) ?_
  have hPc := hP.sub (ws' := [(a1, .inr (16, [.ref a3, .ref a4, .ref a5, .ref a6, .ref a7, .ref a8, .ref a9, .ref a10, .ref a11, .ref a12])), (a3, .inr (10, [.ref a13, .ref a14, .ref a15, .ref a16, .ref a17, .int 0, .int 0]))]) [0, 1] rfl
  have hDc := hD.sub (ws' := [(a1, .inr (16, [.ref a3, .ref a4, .ref a5, .ref a6, .ref a7, .ref a8, .ref a9, .ref a10, .ref a11, .ref a12])), (a3, .inr (10, [.ref a13, .ref a14, .ref a15, .ref a16, .ref a17, .int 0, .int 0]))]) [0, 1] (by decide) rfl
  have hFc := va_free (wc := [(a1, .inr (16, [.ref a3, .ref a4, .ref a5, .ref a6, .ref a7, .ref a8, .ref a9, .ref a10, .ref a11, .ref a12])), (a3, .inr (10, [.ref a13, .ref a14, .ref a15, .ref a16, .ref a17, .int 0, .int 0]))]) hD hS hA [0, 1] rfl
  refine vx_calli (vx_runV (As := [.int p1, .int p2, .int p3]) (rest := [.int 0, .ref a2]) ⟨hx, hb, hml, hown, hts⟩ (xcX11_isTriangle l hst dC dI T a1 a3 a4 a5 a6 a7 a8 a9 a10 a11 a12 a13 a14 a15 a16 a17 s.heap.size p1 p2 p3) (cwV 3 hts gL_isTriangle_X11_isTriangle rfl rfl rfl (by decide +kernel) ⟨Nat.le_of_ble_eq_true rfl, Nat.le_of_ble_eq_true rfl⟩) ⟨xBlind, va_recv hK hPc (ci := 16) (q0 := 0) rfl rfl, xCall hK hG hS hPc hDc hFc⟩ rfl rfl hl.1 rfl (lv_room (Nat.le_of_ble_eq_true rfl)) dL_isTriangle_7 ⟨Nat.le_of_ble_eq_true rfl, Nat.le_of_ble_eq_true rfl⟩) hS (fun q _ h => hFc q h) hFc (fun q _ h => hFc q h) (fun E ce q9 u t H locs ht hvm hw hB hz1 hk1 hS hce hcv hcl => ?_) (fun r_9 u t H locs ht hvm hw hB hz1 hk1 hS => ?_)
  · rcases hB with ⟨hE, hP1, hD1⟩
    subst hE
    rw [ht] at hP1
    obtain ⟨hP, hD⟩ := va_join (wr := []) (w1 := []) hP hD [0, 1] [] rfl rfl (by decide) (by decide) hk1 hFc hP1 hD1
    have hP : va_P (dC, dI) vwCl [] H := hP
    have hD : va_D A [] := hD
    clear hPc hDc hFc hP1 hD1 hk1 hz1 ht hvm
    refine vx_catch (E := "java/lang/IndexOutOfBoundsException") (name := "java/lang/IndexOutOfBoundsException") hown [] ⟨0, 19, 22, 23⟩ [] (htab.trans rfl) (fun _ h => absurd h List.not_mem_nil) (by decide) (by decide) (hts (.classLink RL 23 "java/lang/IndexOutOfBoundsException") (by decide +kernel)) (xBad_use hG.2.2.2.1 _ (by decide +kernel)) hce hcv hcl ?_
    refine lv_astore (lv' := [(5, .ref q9), (0, .ref a1), (1, .int p1), (2, .int p2), (3, .int p3), (4, .ref a2)]) hx hb dL_isTriangle_22 hl (by decide) rfl (fun ls hl => ?_)
    refine lv_iconst (v := 1) hx hb dL_isTriangle_24 (by decide) ?_
    have hP9 := hP.sub (ws' := []) [] rfl
    have hD9 := hD.sub (ws' := []) [] (by decide) rfl
    exact W.iret (v := 1) hx hb hr (fun t ht hW => ⟨⟨_, _, rfl, rfl, ⟨rfl, by rw [ht]; exact hP9, hD9⟩⟩, hS.F ht⟩) hS.2.2 dL_isTriangle_25
  · exact absurd hB id
set_option maxHeartbeats 4000000 in
set_option maxRecDepth 100000 in
theorem xcX11_needLaw (l : Launch) (hst : l.stackTraces = false) (dC : Nat → ClassId) (dI : Nat → Nat → Nat) (T : Nat → ClassId) (sz : Nat) (p0 : Int32) : vx_Met l yX11_needLaw wsX11_needLaw ({ frames := 6, cells := 1, slots := 6, locals := 82 } : Room) (va_Pc [.int p0] (fun U => xB dC dI T [] sz U)) (va_Qv (fun _ : Unit => True) (fun (_ : Unit) (t : State) => ((p0.toInt = 97) ∨ ((¬ (p0.toInt = 97)) ∧ (p0.toInt = 122))) ∧ xE dC dI [] (va_A [] sz) t) (va_A [] sz)) (vx_X (fun _ : Unit => True) (fun (E : String) (_ : Unit) (t : State) => ((¬ (p0.toInt = 97)) ∧ (¬ (p0.toInt = 122))) ∧ E = "java/lang/IllegalArgumentException" ∧ xE dC dI [] (va_A [] sz) t) (va_A [] sz)) 1 6 (va_A [] sz) := by
  refine vx_ofW (cc := cX11_needLaw) (maxL := 1) (ret := none) (by decide +kernel) rfl ?_
  intro p e s m args below meth c s₁ B hml hex hv
  obtain ⟨rfl, hsz, hP, hK, hD0, hG⟩ := hv
  have hx := B.exec
  have hb := B.bytes
  have hr := B.returns
  have hts := atoms_spec (ws := wsX11_needLaw) B.pre
  have hown : s.vm.findClass RX11 = some m.cls := findClass_of_methodNamed B.named
  have hlocks := B.notSynchronized
  have hm_214 : ∀ w ∈ (vx_atS RX11 214 "java/lang/IllegalArgumentException" ["java/lang/RuntimeException", "java/lang/Exception"]).filter goodWord, w ∈ wsX11_needLaw := by decide +kernel
  have hat_214 : ∀ w ∈ vx_atS RX11 214 "java/lang/IllegalArgumentException" ["java/lang/RuntimeException", "java/lang/Exception"], w.before (#[.int p0] : Array Value) s = true := vx_hat (B := xBad) (fun w hw => hts w (hm_214 w hw)) (by decide +kernel) (xBad_use hG.2.2.2.1)
  subst hsz
  have hD := hD0.self (sz := s.heap.size)
  generalize hAe : va_A [] s.heap.size = A at hD hG ⊢
  have hA : ∀ q : Nat, s.heap.size ≤ q → A q := fun q h => by rw [← hAe]; exact Or.inr h
  have hS : va_S A s.heap s.heap [] := va_S.rf
  have hl := lv_entry ([.int p0]) (n := 1) (Nat.le_of_ble_eq_true rfl)
  rw [lg_entry_eq]
  generalize (lg_sl ([.int p0]) ++ List.replicate (1 - (lg_sl ([.int p0])).length) Slot.unset).toArray = ls at hl ⊢
  have hl : lv_has ls 1 [(0, .int p0)] := hl
  refine lv_iload_n hx hb dX11_needLaw_0 rfl (lv_at hl 0 rfl) ?_
  refine lv_bipush (v := 97) hx hb dX11_needLaw_1 (by decide) ?_
  refine lv_icmp_eq (tgt := 23) hx hb dX11_needLaw_3 (by decide) (fun c_1 => ?_) (fun c_1 => ?_)
  · have nc_1 : p0.toInt = 97 := (xi_eq rfl (by decide +kernel)).mp c_1
    refine vx_ret ?_
    have hP9 := hP.sub (ws' := []) [] rfl
    have hD9 := hD.sub (ws' := []) [] (by decide) rfl
    refine W.widen (k := 1) (n := 6) (Nat.le_of_ble_eq_true rfl) (Nat.le_of_ble_eq_true rfl) ?_
    exact W.vret hx hb hr (fun t ht hW => ⟨⟨(), rfl, trivial, ⟨(Or.inl nc_1), by rw [ht]; exact hP9, hD9⟩⟩, hS.F ht⟩) hS.2.2 dX11_needLaw_23
  · have nc_1 : ¬ (p0.toInt = 97) := mt (xi_eq rfl (by decide +kernel)).mpr c_1
    refine lv_iload_n hx hb dX11_needLaw_6 rfl (lv_at hl 0 rfl) ?_
    refine lv_bipush (v := 122) hx hb dX11_needLaw_7 (by decide) ?_
    refine lv_icmp_eq (tgt := 23) hx hb dX11_needLaw_9 (by decide) (fun c_2 => ?_) (fun c_2 => ?_)
    · have nc_2 : p0.toInt = 122 := (xi_eq rfl (by decide +kernel)).mp c_2
      refine vx_ret ?_
      have hP9 := hP.sub (ws' := []) [] rfl
      have hD9 := hD.sub (ws' := []) [] (by decide) rfl
      refine W.widen (k := 1) (n := 6) (Nat.le_of_ble_eq_true rfl) (Nat.le_of_ble_eq_true rfl) ?_
      exact W.vret hx hb hr (fun t ht hW => ⟨⟨(), rfl, trivial, ⟨(Or.inr (⟨nc_1, nc_2⟩)), by rw [ht]; exact hP9, hD9⟩⟩, hS.F ht⟩) hS.2.2 dX11_needLaw_23
    · have nc_2 : ¬ (p0.toInt = 122) := mt (xi_eq rfl (by decide +kernel)).mpr c_2
      obtain ⟨sa, hsa⟩ := hG.2.2.2.2.1 (RX11, 391, "there is no such law") (by decide +kernel)
      have hP9 := hP.sub (ws' := []) [] rfl
      have hD9 := hD.sub (ws' := []) [] (by decide) rfl
      exact vx_throwSW (cls := "java/lang/IllegalArgumentException") (names := ["java/lang/RuntimeException", "java/lang/Exception"]) (text := "there is no such law") (ic := 214) hx hb hst hown (by decide +kernel) (by decide +kernel) (hts (.classLink RX11 210 "java/lang/IllegalArgumentException") (by decide +kernel)) (hts (.initialized "java/lang/IllegalArgumentException") (by decide +kernel)) hsa hat_214 (by decide +kernel) hG.1 hG.2.1 hS (by rw [hml]; exact hl.1) dX11_needLaw_12 dX11_needLaw_15 dX11_needLaw_16 dX11_needLaw_19 dX11_needLaw_22 (fun x hx => absurd (hex x hx) id) (Nat.le_of_ble_eq_true rfl) (Nat.le_of_ble_eq_true rfl) (Nat.le_of_ble_eq_true rfl) (Nat.le_of_ble_eq_true rfl) hlocks (fun t hvm hz1 hk1 => ⟨(), trivial, ⟨⟨nc_1, nc_2⟩, rfl, hP9.kept (fun k x hx => hk1 x.1 ((hP9 k x hx).lt)), hD9⟩, xthrF hS hz1 hk1⟩) hS.2.2 (Nat.le_of_ble_eq_true rfl) (Nat.le_of_ble_eq_true rfl)
set_option maxHeartbeats 4000000 in
set_option maxRecDepth 100000 in
theorem xcX11_needRange_v5 (l : Launch) (hst : l.stackTraces = false) (dC : Nat → ClassId) (dI : Nat → Nat → Nat) (T : Nat → ClassId) (sz : Nat) (p0 : Int32) : vx_Met l yX11_needRange wsX11_needRange ({ frames := 6, cells := 1, slots := 6, locals := 82 } : Room) (va_Pc [.int p0, .int 1, .int (-1)] (fun U => xB dC dI T [] sz U)) (va_Qv (fun _ : Unit => True) (fun (_ : Unit) (t : State) => False) (va_A [] sz)) (vx_X (fun _ : Unit => True) (fun (E : String) (_ : Unit) (t : State) => E = "java/lang/IllegalArgumentException" ∧ xE dC dI [] (va_A [] sz) t) (va_A [] sz)) 1 6 (va_A [] sz) := by
  refine vx_ofW (cc := cX11_needRange) (maxL := 3) (ret := none) (by decide +kernel) rfl ?_
  intro p e s m args below meth c s₁ B hml hex hv
  obtain ⟨rfl, hsz, hP, hK, hD0, hG⟩ := hv
  have hx := B.exec
  have hb := B.bytes
  have hr := B.returns
  have hts := atoms_spec (ws := wsX11_needRange) B.pre
  have hown : s.vm.findClass RX11 = some m.cls := findClass_of_methodNamed B.named
  have hlocks := B.notSynchronized
  have hm_214 : ∀ w ∈ (vx_atS RX11 214 "java/lang/IllegalArgumentException" ["java/lang/RuntimeException", "java/lang/Exception"]).filter goodWord, w ∈ wsX11_needRange := by decide +kernel
  have hat_214 : ∀ w ∈ vx_atS RX11 214 "java/lang/IllegalArgumentException" ["java/lang/RuntimeException", "java/lang/Exception"], w.before (#[.int p0, .int 1, .int (-1)] : Array Value) s = true := vx_hat (B := xBad) (fun w hw => hts w (hm_214 w hw)) (by decide +kernel) (xBad_use hG.2.2.2.1)
  subst hsz
  have hD := hD0.self (sz := s.heap.size)
  generalize hAe : va_A [] s.heap.size = A at hD hG ⊢
  have hA : ∀ q : Nat, s.heap.size ≤ q → A q := fun q h => by rw [← hAe]; exact Or.inr h
  have hS : va_S A s.heap s.heap [] := va_S.rf
  have hl := lv_entry ([.int p0, .int 1, .int (-1)]) (n := 3) (Nat.le_of_ble_eq_true rfl)
  rw [lg_entry_eq]
  generalize (lg_sl ([.int p0, .int 1, .int (-1)]) ++ List.replicate (3 - (lg_sl ([.int p0, .int 1, .int (-1)])).length) Slot.unset).toArray = ls at hl ⊢
  have hl : lv_has ls 3 [(0, .int p0), (1, .int 1), (2, .int (-1))] := hl
  refine lv_iload_n hx hb dX11_needRange_0 rfl (lv_at hl 0 rfl) ?_
  refine lv_iload_n hx hb dX11_needRange_1 rfl (lv_at hl 1 rfl) ?_
  refine lv_icmp_lt (tgt := 10) hx hb dX11_needRange_2 (by decide) (fun c_1 => ?_) (fun c_1 => ?_)
  · have nc_1 : p0.toInt < 1 := (xi_lt rfl (by decide +kernel)).mp c_1
    obtain ⟨sa, hsa⟩ := hG.2.2.2.2.1 (RX11, 385, "a number is out of range") (by decide +kernel)
    have hP9 := hP.sub (ws' := []) [] rfl
    have hD9 := hD.sub (ws' := []) [] (by decide) rfl
    exact vx_throwSW (cls := "java/lang/IllegalArgumentException") (names := ["java/lang/RuntimeException", "java/lang/Exception"]) (text := "a number is out of range") (ic := 214) hx hb hst hown (by decide +kernel) (by decide +kernel) (hts (.classLink RX11 210 "java/lang/IllegalArgumentException") (by decide +kernel)) (hts (.initialized "java/lang/IllegalArgumentException") (by decide +kernel)) hsa hat_214 (by decide +kernel) hG.1 hG.2.1 hS (by rw [hml]; exact hl.1) dX11_needRange_10 dX11_needRange_13 dX11_needRange_14 dX11_needRange_17 dX11_needRange_20 (fun x hx => absurd (hex x hx) id) (Nat.le_of_ble_eq_true rfl) (Nat.le_of_ble_eq_true rfl) (Nat.le_of_ble_eq_true rfl) (Nat.le_of_ble_eq_true rfl) hlocks (fun t hvm hz1 hk1 => ⟨(), trivial, ⟨rfl, hP9.kept (fun k x hx => hk1 x.1 ((hP9 k x hx).lt)), hD9⟩, xthrF hS hz1 hk1⟩) hS.2.2 (Nat.le_of_ble_eq_true rfl) (Nat.le_of_ble_eq_true rfl)
  · have nc_1 : ¬ (p0.toInt < 1) := mt (xi_lt rfl (by decide +kernel)).mpr c_1
    refine lv_iload_n hx hb dX11_needRange_5 rfl (lv_at hl 0 rfl) ?_
    refine lv_iload_n hx hb dX11_needRange_6 rfl (lv_at hl 2 rfl) ?_
    refine lv_icmp_le (tgt := 21) hx hb dX11_needRange_7 (by decide) (fun c_2 => absurd (show p0.toInt ≤ -1 from (xi_le rfl (by decide +kernel)).mp c_2) (by omega)) (fun _ => ?_)
    obtain ⟨sa, hsa⟩ := hG.2.2.2.2.1 (RX11, 385, "a number is out of range") (by decide +kernel)
    have hP9 := hP.sub (ws' := []) [] rfl
    have hD9 := hD.sub (ws' := []) [] (by decide) rfl
    exact vx_throwSW (cls := "java/lang/IllegalArgumentException") (names := ["java/lang/RuntimeException", "java/lang/Exception"]) (text := "a number is out of range") (ic := 214) hx hb hst hown (by decide +kernel) (by decide +kernel) (hts (.classLink RX11 210 "java/lang/IllegalArgumentException") (by decide +kernel)) (hts (.initialized "java/lang/IllegalArgumentException") (by decide +kernel)) hsa hat_214 (by decide +kernel) hG.1 hG.2.1 hS (by rw [hml]; exact hl.1) dX11_needRange_10 dX11_needRange_13 dX11_needRange_14 dX11_needRange_17 dX11_needRange_20 (fun x hx => absurd (hex x hx) id) (Nat.le_of_ble_eq_true rfl) (Nat.le_of_ble_eq_true rfl) (Nat.le_of_ble_eq_true rfl) (Nat.le_of_ble_eq_true rfl) hlocks (fun t hvm hz1 hk1 => ⟨(), trivial, ⟨rfl, hP9.kept (fun k x hx => hk1 x.1 ((hP9 k x hx).lt)), hD9⟩, xthrF hS hz1 hk1⟩) hS.2.2 (Nat.le_of_ble_eq_true rfl) (Nat.le_of_ble_eq_true rfl)
set_option maxHeartbeats 4000000 in
set_option maxRecDepth 100000 in
theorem xcX11_joinedAt (l : Launch) (hst : l.stackTraces = false) (dC : Nat → ClassId) (dI : Nat → Nat → Nat) (T : Nat → ClassId) (a1 : Nat) (a2 : Nat) (a3 : Nat) (a4 : Nat) (a5 : Nat) (a6 : Nat) (a7 : Nat) (a8 : Nat) (a9 : Nat) (a10 : Nat) (a11 : Nat) (a12 : Nat) (a13 : Nat) (a14 : Nat) (a15 : Nat) (a16 : Nat) (sz : Nat) (p1 : Int32) (p2 : Int32) : vx_Met l yX11_joinedAt wsX11_joinedAt ({ frames := 7, cells := 2, slots := 12, locals := 104 } : Room) (va_Pc [.ref a1, .int p1, .int p2] (fun U => xB dC dI T [(a1, .inr (16, [.ref a2, .ref a3, .ref a4, .ref a5, .ref a6, .ref a7, .ref a8, .ref a9, .ref a10, .ref a11])), (a2, .inr (10, [.ref a12, .ref a13, .ref a14, .ref a15, .ref a16, .int 0, .int 0]))] sz U)) (va_Qi (fun (r u : Int32) => r = u) (fun (u : Int32) (t : State) => False) (va_A [(a1, .inr (16, [.ref a2, .ref a3, .ref a4, .ref a5, .ref a6, .ref a7, .ref a8, .ref a9, .ref a10, .ref a11])), (a2, .inr (10, [.ref a12, .ref a13, .ref a14, .ref a15, .ref a16, .int 0, .int 0]))] sz)) (vx_X (fun _ : Unit => True) (fun (E : String) (_ : Unit) (t : State) => E = "java/lang/IllegalArgumentException" ∧ xE dC dI [] (va_A [(a1, .inr (16, [.ref a2, .ref a3, .ref a4, .ref a5, .ref a6, .ref a7, .ref a8, .ref a9, .ref a10, .ref a11])), (a2, .inr (10, [.ref a12, .ref a13, .ref a14, .ref a15, .ref a16, .int 0, .int 0]))] sz) t) (va_A [(a1, .inr (16, [.ref a2, .ref a3, .ref a4, .ref a5, .ref a6, .ref a7, .ref a8, .ref a9, .ref a10, .ref a11])), (a2, .inr (10, [.ref a12, .ref a13, .ref a14, .ref a15, .ref a16, .int 0, .int 0]))] sz)) 2 12 (va_A [(a1, .inr (16, [.ref a2, .ref a3, .ref a4, .ref a5, .ref a6, .ref a7, .ref a8, .ref a9, .ref a10, .ref a11])), (a2, .inr (10, [.ref a12, .ref a13, .ref a14, .ref a15, .ref a16, .int 0, .int 0]))] sz) := by
  refine vx_ofW (cc := cX11_joinedAt) (maxL := 3) (ret := (some .int)) (by decide +kernel) rfl ?_
  intro p e s m args below meth c s₁ B hml hex hv
  obtain ⟨rfl, hsz, hP, hK, hD0, hG⟩ := hv
  have hx := B.exec
  have hb := B.bytes
  have hr := B.returns
  have hts := atoms_spec (ws := wsX11_joinedAt) B.pre
  have hown : s.vm.findClass RX11 = some m.cls := findClass_of_methodNamed B.named
  have hlocks := B.notSynchronized
  have hin_X11 : ∀ w ∈ wsX110, w ∈ wsX11_joinedAt := by decide +kernel
  subst hsz
  have hD := hD0.self (sz := s.heap.size)
  generalize hAe : va_A [(a1, .inr (16, [.ref a2, .ref a3, .ref a4, .ref a5, .ref a6, .ref a7, .ref a8, .ref a9, .ref a10, .ref a11])), (a2, .inr (10, [.ref a12, .ref a13, .ref a14, .ref a15, .ref a16, .int 0, .int 0]))] s.heap.size = A at hD hG ⊢
  have hA : ∀ q : Nat, s.heap.size ≤ q → A q := fun q h => by rw [← hAe]; exact Or.inr h
  have hS : va_S A s.heap s.heap [] := va_S.rf
  have hl := lv_entry ([.ref a1, .int p1, .int p2]) (n := 3) (Nat.le_of_ble_eq_true rfl)
  rw [lg_entry_eq]
  generalize (lg_sl ([.ref a1, .int p1, .int p2]) ++ List.replicate (3 - (lg_sl ([.ref a1, .int p1, .int p2])).length) Slot.unset).toArray = ls at hl ⊢
  have hl : lv_has ls 3 [(0, .ref a1), (1, .int p1), (2, .int p2)] := hl
  refine lv_iload_n hx hb dX11_joinedAt_0 rfl (lv_at hl 1 rfl) ?_
  have hPc := hP.sub (ws' := []) [] rfl
  have hDc := hD.sub (ws' := []) [] (by decide) rfl
  have hFc := va_free (wc := []) hD hS hA [] rfl
  refine vx_callv (vx_runS (As := [.int p1]) (rest := []) ⟨hx, hb, hml, hown, hts⟩ (xcX11_needLaw l hst dC dI T s.heap.size p1) (cwS 1 hts gX11_joinedAt_X11_needLaw rfl rfl rfl (by decide +kernel) ⟨Nat.le_of_ble_eq_true rfl, Nat.le_of_ble_eq_true rfl⟩) ⟨xBlind, xCall hK hG hS hPc hDc hFc⟩ rfl rfl hl.1 rfl (lv_room (Nat.le_of_ble_eq_true rfl)) dX11_joinedAt_1 ⟨Nat.le_of_ble_eq_true rfl, Nat.le_of_ble_eq_true rfl⟩) hS (fun q _ h => hFc q h) hFc (fun q _ h => hFc q h) (fun E ce q9 u t H locs ht hvm hw hB hz1 hk1 hS hce hcv hcl => ?_) (fun u t H locs ht hvm hw hB hz1 hk1 hS => ?_)
  · rcases hB with ⟨c_1, hE, hP1, hD1⟩
    subst hE
    rw [ht] at hP1
    obtain ⟨hP, hD⟩ := va_join (wr := [(a1, .inr (16, [.ref a2, .ref a3, .ref a4, .ref a5, .ref a6, .ref a7, .ref a8, .ref a9, .ref a10, .ref a11])), (a2, .inr (10, [.ref a12, .ref a13, .ref a14, .ref a15, .ref a16, .int 0, .int 0]))]) (w1 := []) hP hD [] [0, 1] rfl rfl (by decide) (by decide) hk1 hFc hP1 hD1
    have hP : va_P (dC, dI) vwCl [(a1, .inr (16, [.ref a2, .ref a3, .ref a4, .ref a5, .ref a6, .ref a7, .ref a8, .ref a9, .ref a10, .ref a11])), (a2, .inr (10, [.ref a12, .ref a13, .ref a14, .ref a15, .ref a16, .int 0, .int 0]))] H := hP
    have hD : va_D A [(a1, .inr (16, [.ref a2, .ref a3, .ref a4, .ref a5, .ref a6, .ref a7, .ref a8, .ref a9, .ref a10, .ref a11])), (a2, .inr (10, [.ref a12, .ref a13, .ref a14, .ref a15, .ref a16, .int 0, .int 0]))] := hD
    clear hPc hDc hFc hP1 hD1 hk1 hz1 ht hvm
    have hP9 := hP.sub (ws' := []) [] rfl
    have hD9 := hD.sub (ws' := []) [] (by decide) rfl
    exact vx_out (fun x hx => absurd (hex x hx) id) hlocks hce hcv hcl (fun t ht _ => ⟨(), trivial, ⟨rfl, by rw [ht]; exact hP9, hD9⟩, hS.F ht⟩) hS.2.2 (Nat.le_of_ble_eq_true rfl) (Nat.le_of_ble_eq_true rfl)
  · rcases hB with ⟨c_2, hP1, hD1⟩
    rw [ht] at hP1
    obtain ⟨hP, hD⟩ := va_join (wr := [(a1, .inr (16, [.ref a2, .ref a3, .ref a4, .ref a5, .ref a6, .ref a7, .ref a8, .ref a9, .ref a10, .ref a11])), (a2, .inr (10, [.ref a12, .ref a13, .ref a14, .ref a15, .ref a16, .int 0, .int 0]))]) (w1 := []) hP hD [] [0, 1] rfl rfl (by decide) (by decide) hk1 hFc hP1 hD1
    have hP : va_P (dC, dI) vwCl [(a1, .inr (16, [.ref a2, .ref a3, .ref a4, .ref a5, .ref a6, .ref a7, .ref a8, .ref a9, .ref a10, .ref a11])), (a2, .inr (10, [.ref a12, .ref a13, .ref a14, .ref a15, .ref a16, .int 0, .int 0]))] H := hP
    have hD : va_D A [(a1, .inr (16, [.ref a2, .ref a3, .ref a4, .ref a5, .ref a6, .ref a7, .ref a8, .ref a9, .ref a10, .ref a11])), (a2, .inr (10, [.ref a12, .ref a13, .ref a14, .ref a15, .ref a16, .int 0, .int 0]))] := hD
    clear hPc hDc hFc hP1 hD1 hk1 hz1 ht hvm
    refine lv_iload_n hx hb dX11_joinedAt_4 rfl (lv_at hl 2 rfl) ?_
    refine lv_iconst (v := 1) hx hb dX11_joinedAt_5 (by decide) ?_
    refine lv_aload_n hx hb dX11_joinedAt_6 rfl (lv_at hl 0 rfl) ?_
    refine va_get (D := (dC, dI)) (ci := 16) (v := .ref a2) (C := RX11) (T := TX11) (N := 10) hx hb hts hin_X11 hown hK hP 0 rfl rfl 0 (by decide) (hts (.fieldLink RX11 12 "Nearestward" "ground" "LNearestward$Ground;") (by decide +kernel)) (fun _ h9 => h9) rfl dX11_joinedAt_7 ?_
    have hPc := hP.sub (ws' := [(a2, .inr (10, [.ref a12, .ref a13, .ref a14, .ref a15, .ref a16, .int 0, .int 0]))]) [1] rfl
    have hDc := hD.sub (ws' := [(a2, .inr (10, [.ref a12, .ref a13, .ref a14, .ref a15, .ref a16, .int 0, .int 0]))]) [1] (by decide) rfl
    have hFc := va_free (wc := [(a2, .inr (10, [.ref a12, .ref a13, .ref a14, .ref a15, .ref a16, .int 0, .int 0]))]) hD hS hA [1] rfl
    refine va_calli (va_runV (As := []) (rest := [.int 1, .int p2]) ⟨hx, hb, hml, hown, hts⟩ (xcX5_count l hst dC dI T a2 a12 a13 a14 a15 a16 H.size) (cwV 0 hts gX11_joinedAt_X5_count rfl rfl rfl (by decide +kernel) ⟨Nat.le_of_ble_eq_true rfl, Nat.le_of_ble_eq_true rfl⟩) ⟨xBlind, va_recv hK hPc (ci := 10) (q0 := 0) rfl rfl, xCall hK hG hS hPc hDc hFc⟩ rfl rfl hl.1 rfl (lv_room (Nat.le_of_ble_eq_true rfl)) dX11_joinedAt_10 ⟨Nat.le_of_ble_eq_true rfl, Nat.le_of_ble_eq_true rfl⟩) hS (fun q _ h => hFc q h) hFc (fun r_9 u t H locs ht hvm hw hB hz1 hk1 hS => ?_)
    subst hw
    rcases hB with ⟨hr_9, hP1, hD1⟩
    rw [ht] at hP1
    subst hr_9
    obtain ⟨hP, hD⟩ := va_join (wr := [(a1, .inr (16, [.ref a2, .ref a3, .ref a4, .ref a5, .ref a6, .ref a7, .ref a8, .ref a9, .ref a10, .ref a11]))]) (w1 := [(a2, .inr (10, [.ref a12, .ref a13, .ref a14, .ref a15, .ref a16, .int 0, .int 0]))]) hP hD [1] [0] rfl rfl (by decide) (by decide) hk1 hFc hP1 hD1
    have hP : va_P (dC, dI) vwCl [(a1, .inr (16, [.ref a2, .ref a3, .ref a4, .ref a5, .ref a6, .ref a7, .ref a8, .ref a9, .ref a10, .ref a11])), (a2, .inr (10, [.ref a12, .ref a13, .ref a14, .ref a15, .ref a16, .int 0, .int 0]))] H := hP
    have hD : va_D A [(a1, .inr (16, [.ref a2, .ref a3, .ref a4, .ref a5, .ref a6, .ref a7, .ref a8, .ref a9, .ref a10, .ref a11])), (a2, .inr (10, [.ref a12, .ref a13, .ref a14, .ref a15, .ref a16, .int 0, .int 0]))] := hD
    clear hPc hDc hFc hP1 hD1 hk1 hz1 ht hvm
    refine lv_iconst (v := 1) hx hb dX11_joinedAt_13 (by decide) ?_
    refine lv_isub hx hb dX11_joinedAt_14 ?_
    refine lv_topi (fun f_4 ef_4 => ?_)
    obtain rfl : f_4 = (-1) := ef_4.trans (by decide)
    have hPc := hP.sub (ws' := []) [] rfl
    have hDc := hD.sub (ws' := []) [] (by decide) rfl
    have hFc := va_free (wc := []) hD hS hA [] rfl
    refine vx_callv (vx_runS (As := [.int p2, .int 1, .int (-1)]) (rest := []) ⟨hx, hb, hml, hown, hts⟩ (xcX11_needRange_v5 l hst dC dI T H.size p2) (cwS 3 hts gX11_joinedAt_X11_needRange rfl rfl rfl (by decide +kernel) ⟨Nat.le_of_ble_eq_true rfl, Nat.le_of_ble_eq_true rfl⟩) ⟨xBlind, xCall hK hG hS hPc hDc hFc⟩ rfl rfl hl.1 rfl (lv_room (Nat.le_of_ble_eq_true rfl)) dX11_joinedAt_15 ⟨Nat.le_of_ble_eq_true rfl, Nat.le_of_ble_eq_true rfl⟩) hS (fun q _ h => hFc q h) hFc (fun q _ h => hFc q h) (fun E ce q9 u t H locs ht hvm hw hB hz1 hk1 hS hce hcv hcl => ?_) (fun u t H locs ht hvm hw hB hz1 hk1 hS => ?_)
    · rcases hB with ⟨hE, hP1, hD1⟩
      subst hE
      rw [ht] at hP1
      obtain ⟨hP, hD⟩ := va_join (wr := [(a1, .inr (16, [.ref a2, .ref a3, .ref a4, .ref a5, .ref a6, .ref a7, .ref a8, .ref a9, .ref a10, .ref a11])), (a2, .inr (10, [.ref a12, .ref a13, .ref a14, .ref a15, .ref a16, .int 0, .int 0]))]) (w1 := []) hP hD [] [0, 1] rfl rfl (by decide) (by decide) hk1 hFc hP1 hD1
      have hP : va_P (dC, dI) vwCl [(a1, .inr (16, [.ref a2, .ref a3, .ref a4, .ref a5, .ref a6, .ref a7, .ref a8, .ref a9, .ref a10, .ref a11])), (a2, .inr (10, [.ref a12, .ref a13, .ref a14, .ref a15, .ref a16, .int 0, .int 0]))] H := hP
      have hD : va_D A [(a1, .inr (16, [.ref a2, .ref a3, .ref a4, .ref a5, .ref a6, .ref a7, .ref a8, .ref a9, .ref a10, .ref a11])), (a2, .inr (10, [.ref a12, .ref a13, .ref a14, .ref a15, .ref a16, .int 0, .int 0]))] := hD
      clear hPc hDc hFc hP1 hD1 hk1 hz1 ht hvm
      have hP9 := hP.sub (ws' := []) [] rfl
      have hD9 := hD.sub (ws' := []) [] (by decide) rfl
      exact vx_out (fun x hx => absurd (hex x hx) id) hlocks hce hcv hcl (fun t ht _ => ⟨(), trivial, ⟨rfl, by rw [ht]; exact hP9, hD9⟩, hS.F ht⟩) hS.2.2 (Nat.le_of_ble_eq_true rfl) (Nat.le_of_ble_eq_true rfl)
    · exact absurd hB id
set_option maxHeartbeats 4000000 in
set_option maxRecDepth 100000 in
theorem xcL_joinedAt (l : Launch) (hst : l.stackTraces = false) (dC : Nat → ClassId) (dI : Nat → Nat → Nat) (T : Nat → ClassId) (a1 : Nat) (a2 : Nat) (a3 : Nat) (a4 : Nat) (a5 : Nat) (a6 : Nat) (a7 : Nat) (a8 : Nat) (a9 : Nat) (a10 : Nat) (a11 : Nat) (a12 : Nat) (a13 : Nat) (a14 : Nat) (a15 : Nat) (a16 : Nat) (a17 : Nat) (sz : Nat) (p1 : Int32) (p2 : Int32) : Met l yL_joinedAt wsL_joinedAt ({ frames := 8, cells := 2, slots := 12, locals := 126 } : Room) (va_Pc [.ref a1, .int p1, .int p2, .ref a2] (fun U => xB dC dI T [(a1, .inr (16, [.ref a3, .ref a4, .ref a5, .ref a6, .ref a7, .ref a8, .ref a9, .ref a10, .ref a11, .ref a12])), (a3, .inr (10, [.ref a13, .ref a14, .ref a15, .ref a16, .ref a17, .int 0, .int 0]))] sz U)) (va_Qi (fun (r u : Int32) => r = u) (fun (u : Int32) (t : State) => 1 = u ∧ xE dC dI [] (va_A [(a1, .inr (16, [.ref a3, .ref a4, .ref a5, .ref a6, .ref a7, .ref a8, .ref a9, .ref a10, .ref a11, .ref a12])), (a3, .inr (10, [.ref a13, .ref a14, .ref a15, .ref a16, .ref a17, .int 0, .int 0]))] sz) t) (va_A [(a1, .inr (16, [.ref a3, .ref a4, .ref a5, .ref a6, .ref a7, .ref a8, .ref a9, .ref a10, .ref a11, .ref a12])), (a3, .inr (10, [.ref a13, .ref a14, .ref a15, .ref a16, .ref a17, .int 0, .int 0]))] sz)) 2 12 (va_A [(a1, .inr (16, [.ref a3, .ref a4, .ref a5, .ref a6, .ref a7, .ref a8, .ref a9, .ref a10, .ref a11, .ref a12])), (a3, .inr (10, [.ref a13, .ref a14, .ref a15, .ref a16, .ref a17, .int 0, .int 0]))] sz) := by
  refine va_MetW (cc := cL_joinedAt) (maxL := 5) (ret := (some .int)) (hh := [(0, 10, 13, 13)]) (by decide +kernel) rfl ?_
  intro p e s m args below meth c s₁ B hml hv
  obtain ⟨rfl, hsz, hP, hK, hD0, hG⟩ := hv
  have hx := B.exec
  have hb := B.bytes
  have hr := B.returns
  have hts := atoms_spec (ws := wsL_joinedAt) B.pre
  have hown : s.vm.findClass RL = some m.cls := findClass_of_methodNamed B.named
  have hlocks := B.notSynchronized
  have htab := vx_table (x := yL_joinedAt) B (hts (.codeWith yL_joinedAt cL_joinedAt 5 (some .int) [(0, 10, 13, 13)]) (by decide +kernel))
  subst hsz
  have hD := hD0.self (sz := s.heap.size)
  generalize hAe : va_A [(a1, .inr (16, [.ref a3, .ref a4, .ref a5, .ref a6, .ref a7, .ref a8, .ref a9, .ref a10, .ref a11, .ref a12])), (a3, .inr (10, [.ref a13, .ref a14, .ref a15, .ref a16, .ref a17, .int 0, .int 0]))] s.heap.size = A at hD hG ⊢
  have hA : ∀ q : Nat, s.heap.size ≤ q → A q := fun q h => by rw [← hAe]; exact Or.inr h
  have hS : va_S A s.heap s.heap [] := va_S.rf
  have hl := lv_entry ([.ref a1, .int p1, .int p2, .ref a2]) (n := 5) (Nat.le_of_ble_eq_true rfl)
  rw [lg_entry_eq]
  generalize (lg_sl ([.ref a1, .int p1, .int p2, .ref a2]) ++ List.replicate (5 - (lg_sl ([.ref a1, .int p1, .int p2, .ref a2])).length) Slot.unset).toArray = ls at hl ⊢
  have hl : lv_has ls 5 [(0, .ref a1), (1, .int p1), (2, .int p2), (3, .ref a2)] := hl
  refine lv_aload_n hx hb dL_joinedAt_0 rfl (lv_at hl 3 rfl) ?_
  refine lv_iconst (v := 0) hx hb dL_joinedAt_1 (by decide) ?_
  refine lv_aload_n hx hb dL_joinedAt_2 rfl (lv_at hl 0 rfl) ?_
  refine lv_iload_n hx hb dL_joinedAt_3 rfl (lv_at hl 1 rfl) ?_
  refine lv_iload_n hx hb dL_joinedAt_4 rfl (lv_at hl 2 rfl) ?_
  have hPc := hP.sub (ws' := [(a1, .inr (16, [.ref a3, .ref a4, .ref a5, .ref a6, .ref a7, .ref a8, .ref a9, .ref a10, .ref a11, .ref a12])), (a3, .inr (10, [.ref a13, .ref a14, .ref a15, .ref a16, .ref a17, .int 0, .int 0]))]) [0, 1] rfl
  have hDc := hD.sub (ws' := [(a1, .inr (16, [.ref a3, .ref a4, .ref a5, .ref a6, .ref a7, .ref a8, .ref a9, .ref a10, .ref a11, .ref a12])), (a3, .inr (10, [.ref a13, .ref a14, .ref a15, .ref a16, .ref a17, .int 0, .int 0]))]) [0, 1] (by decide) rfl
  have hFc := va_free (wc := [(a1, .inr (16, [.ref a3, .ref a4, .ref a5, .ref a6, .ref a7, .ref a8, .ref a9, .ref a10, .ref a11, .ref a12])), (a3, .inr (10, [.ref a13, .ref a14, .ref a15, .ref a16, .ref a17, .int 0, .int 0]))]) hD hS hA [0, 1] rfl
  refine vx_calli (vx_runV (As := [.int p1, .int p2]) (rest := [.int 0, .ref a2]) ⟨hx, hb, hml, hown, hts⟩ (xcX11_joinedAt l hst dC dI T a1 a3 a4 a5 a6 a7 a8 a9 a10 a11 a12 a13 a14 a15 a16 a17 s.heap.size p1 p2) (cwV 2 hts gL_joinedAt_X11_joinedAt rfl rfl rfl (by decide +kernel) ⟨Nat.le_of_ble_eq_true rfl, Nat.le_of_ble_eq_true rfl⟩) ⟨xBlind, va_recv hK hPc (ci := 16) (q0 := 0) rfl rfl, xCall hK hG hS hPc hDc hFc⟩ rfl rfl hl.1 rfl (lv_room (Nat.le_of_ble_eq_true rfl)) dL_joinedAt_5 ⟨Nat.le_of_ble_eq_true rfl, Nat.le_of_ble_eq_true rfl⟩) hS (fun q _ h => hFc q h) hFc (fun q _ h => hFc q h) (fun E ce q9 u t H locs ht hvm hw hB hz1 hk1 hS hce hcv hcl => ?_) (fun r_9 u t H locs ht hvm hw hB hz1 hk1 hS => ?_)
  · rcases hB with ⟨hE, hP1, hD1⟩
    subst hE
    rw [ht] at hP1
    obtain ⟨hP, hD⟩ := va_join (wr := []) (w1 := []) hP hD [0, 1] [] rfl rfl (by decide) (by decide) hk1 hFc hP1 hD1
    have hP : va_P (dC, dI) vwCl [] H := hP
    have hD : va_D A [] := hD
    clear hPc hDc hFc hP1 hD1 hk1 hz1 ht hvm
    refine vx_catch (E := "java/lang/IllegalArgumentException") (name := "java/lang/IllegalArgumentException") hown [] ⟨0, 10, 13, 13⟩ [] (htab.trans rfl) (fun _ h => absurd h List.not_mem_nil) (by decide) (by decide) (hts (.classLink RL 13 "java/lang/IllegalArgumentException") (by decide +kernel)) (xBad_use hG.2.2.2.1 _ (by decide +kernel)) hce hcv hcl ?_
    refine lv_astore (lv' := [(4, .ref q9), (0, .ref a1), (1, .int p1), (2, .int p2), (3, .ref a2)]) hx hb dL_joinedAt_13 hl (by decide) rfl (fun ls hl => ?_)
    refine lv_iconst (v := 1) hx hb dL_joinedAt_15 (by decide) ?_
    have hP9 := hP.sub (ws' := []) [] rfl
    have hD9 := hD.sub (ws' := []) [] (by decide) rfl
    exact W.iret (v := 1) hx hb hr (fun t ht hW => ⟨⟨_, _, rfl, rfl, ⟨rfl, by rw [ht]; exact hP9, hD9⟩⟩, hS.F ht⟩) hS.2.2 dL_joinedAt_16
  · exact absurd hB id
set_option maxHeartbeats 4000000 in
set_option maxRecDepth 100000 in
theorem xcX11_layer (l : Launch) (hst : l.stackTraces = false) (dC : Nat → ClassId) (dI : Nat → Nat → Nat) (T : Nat → ClassId) (a1 : Nat) (a2 : Nat) (a3 : Nat) (a4 : Nat) (a5 : Nat) (a6 : Nat) (a7 : Nat) (a8 : Nat) (a9 : Nat) (a10 : Nat) (a11 : Nat) (a12 : Nat) (a13 : Nat) (a14 : Nat) (a15 : Nat) (a16 : Nat) (sz : Nat) (p1 : Int32) : vx_Met l yX11_layer wsX11_layer ({ frames := 7, cells := 1, slots := 6, locals := 103 } : Room) (va_Pc [.ref a1, .int p1] (fun U => xB dC dI T [(a1, .inr (16, [.ref a2, .ref a3, .ref a4, .ref a5, .ref a6, .ref a7, .ref a8, .ref a9, .ref a10, .ref a11])), (a2, .inr (10, [.ref a12, .ref a13, .ref a14, .ref a15, .ref a16, .int 0, .int 0]))] sz U)) (va_Qi (fun (r u : Int32) => r = u) (fun (u : Int32) (t : State) => False) (va_A [(a1, .inr (16, [.ref a2, .ref a3, .ref a4, .ref a5, .ref a6, .ref a7, .ref a8, .ref a9, .ref a10, .ref a11])), (a2, .inr (10, [.ref a12, .ref a13, .ref a14, .ref a15, .ref a16, .int 0, .int 0]))] sz)) (vx_X (fun _ : Unit => True) (fun (E : String) (_ : Unit) (t : State) => E = "java/lang/IndexOutOfBoundsException" ∧ xE dC dI [] (va_A [(a1, .inr (16, [.ref a2, .ref a3, .ref a4, .ref a5, .ref a6, .ref a7, .ref a8, .ref a9, .ref a10, .ref a11])), (a2, .inr (10, [.ref a12, .ref a13, .ref a14, .ref a15, .ref a16, .int 0, .int 0]))] sz) t) (va_A [(a1, .inr (16, [.ref a2, .ref a3, .ref a4, .ref a5, .ref a6, .ref a7, .ref a8, .ref a9, .ref a10, .ref a11])), (a2, .inr (10, [.ref a12, .ref a13, .ref a14, .ref a15, .ref a16, .int 0, .int 0]))] sz)) 1 6 (va_A [(a1, .inr (16, [.ref a2, .ref a3, .ref a4, .ref a5, .ref a6, .ref a7, .ref a8, .ref a9, .ref a10, .ref a11])), (a2, .inr (10, [.ref a12, .ref a13, .ref a14, .ref a15, .ref a16, .int 0, .int 0]))] sz) := by
  refine vx_ofW (cc := cX11_layer) (maxL := 2) (ret := (some .int)) (by decide +kernel) rfl ?_
  intro p e s m args below meth c s₁ B hml hex hv
  obtain ⟨rfl, hsz, hP, hK, hD0, hG⟩ := hv
  have hx := B.exec
  have hb := B.bytes
  have hr := B.returns
  have hts := atoms_spec (ws := wsX11_layer) B.pre
  have hown : s.vm.findClass RX11 = some m.cls := findClass_of_methodNamed B.named
  have hlocks := B.notSynchronized
  subst hsz
  have hD := hD0.self (sz := s.heap.size)
  generalize hAe : va_A [(a1, .inr (16, [.ref a2, .ref a3, .ref a4, .ref a5, .ref a6, .ref a7, .ref a8, .ref a9, .ref a10, .ref a11])), (a2, .inr (10, [.ref a12, .ref a13, .ref a14, .ref a15, .ref a16, .int 0, .int 0]))] s.heap.size = A at hD hG ⊢
  have hA : ∀ q : Nat, s.heap.size ≤ q → A q := fun q h => by rw [← hAe]; exact Or.inr h
  have hS : va_S A s.heap s.heap [] := va_S.rf
  have hl := lv_entry ([.ref a1, .int p1]) (n := 2) (Nat.le_of_ble_eq_true rfl)
  rw [lg_entry_eq]
  generalize (lg_sl ([.ref a1, .int p1]) ++ List.replicate (2 - (lg_sl ([.ref a1, .int p1])).length) Slot.unset).toArray = ls at hl ⊢
  have hl : lv_has ls 2 [(0, .ref a1), (1, .int p1)] := hl
  refine lv_aload_n hx hb dX11_layer_0 rfl (lv_at hl 0 rfl) ?_
  refine lv_iload_n hx hb dX11_layer_1 rfl (lv_at hl 1 rfl) ?_
  have hPc := hP.sub (ws' := [(a1, .inr (16, [.ref a2, .ref a3, .ref a4, .ref a5, .ref a6, .ref a7, .ref a8, .ref a9, .ref a10, .ref a11])), (a2, .inr (10, [.ref a12, .ref a13, .ref a14, .ref a15, .ref a16, .int 0, .int 0]))]) [0, 1] rfl
  have hDc := hD.sub (ws' := [(a1, .inr (16, [.ref a2, .ref a3, .ref a4, .ref a5, .ref a6, .ref a7, .ref a8, .ref a9, .ref a10, .ref a11])), (a2, .inr (10, [.ref a12, .ref a13, .ref a14, .ref a15, .ref a16, .int 0, .int 0]))]) [0, 1] (by decide) rfl
  have hFc := va_free (wc := [(a1, .inr (16, [.ref a2, .ref a3, .ref a4, .ref a5, .ref a6, .ref a7, .ref a8, .ref a9, .ref a10, .ref a11])), (a2, .inr (10, [.ref a12, .ref a13, .ref a14, .ref a15, .ref a16, .int 0, .int 0]))]) hD hS hA [0, 1] rfl
  refine vx_callv (vx_runV (As := [.int p1]) (rest := []) ⟨hx, hb, hml, hown, hts⟩ (xcX11_needPoint l hst dC dI T a1 a2 a3 a4 a5 a6 a7 a8 a9 a10 a11 a12 a13 a14 a15 a16 s.heap.size p1) (cwV 1 hts gX11_layer_X11_needPoint rfl rfl rfl (by decide +kernel) ⟨Nat.le_of_ble_eq_true rfl, Nat.le_of_ble_eq_true rfl⟩) ⟨xBlind, va_recv hK hPc (ci := 16) (q0 := 0) rfl rfl, xCall hK hG hS hPc hDc hFc⟩ rfl rfl hl.1 rfl (lv_room (Nat.le_of_ble_eq_true rfl)) dX11_layer_2 ⟨Nat.le_of_ble_eq_true rfl, Nat.le_of_ble_eq_true rfl⟩) hS (fun q _ h => hFc q h) hFc (fun q _ h => hFc q h) (fun E ce q9 u t H locs ht hvm hw hB hz1 hk1 hS hce hcv hcl => ?_) (fun u t H locs ht hvm hw hB hz1 hk1 hS => ?_)
  · rcases hB with ⟨hE, hP1, hD1⟩
    subst hE
    rw [ht] at hP1
    obtain ⟨hP, hD⟩ := va_join (wr := []) (w1 := [(a1, .inr (16, [.ref a2, .ref a3, .ref a4, .ref a5, .ref a6, .ref a7, .ref a8, .ref a9, .ref a10, .ref a11])), (a2, .inr (10, [.ref a12, .ref a13, .ref a14, .ref a15, .ref a16, .int 0, .int 0]))]) hP hD [0, 1] [] rfl rfl (by decide) (by decide) hk1 hFc hP1 hD1
    have hP : va_P (dC, dI) vwCl [(a1, .inr (16, [.ref a2, .ref a3, .ref a4, .ref a5, .ref a6, .ref a7, .ref a8, .ref a9, .ref a10, .ref a11])), (a2, .inr (10, [.ref a12, .ref a13, .ref a14, .ref a15, .ref a16, .int 0, .int 0]))] H := hP
    have hD : va_D A [(a1, .inr (16, [.ref a2, .ref a3, .ref a4, .ref a5, .ref a6, .ref a7, .ref a8, .ref a9, .ref a10, .ref a11])), (a2, .inr (10, [.ref a12, .ref a13, .ref a14, .ref a15, .ref a16, .int 0, .int 0]))] := hD
    clear hPc hDc hFc hP1 hD1 hk1 hz1 ht hvm
    have hP9 := hP.sub (ws' := []) [] rfl
    have hD9 := hD.sub (ws' := []) [] (by decide) rfl
    exact vx_out (fun x hx => absurd (hex x hx) id) hlocks hce hcv hcl (fun t ht _ => ⟨(), trivial, ⟨rfl, by rw [ht]; exact hP9, hD9⟩, hS.F ht⟩) hS.2.2 (Nat.le_of_ble_eq_true rfl) (Nat.le_of_ble_eq_true rfl)
  · exact absurd hB id
set_option maxHeartbeats 4000000 in
set_option maxRecDepth 100000 in
theorem xcL_layer (l : Launch) (hst : l.stackTraces = false) (dC : Nat → ClassId) (dI : Nat → Nat → Nat) (T : Nat → ClassId) (a1 : Nat) (a2 : Nat) (a3 : Nat) (a4 : Nat) (a5 : Nat) (a6 : Nat) (a7 : Nat) (a8 : Nat) (a9 : Nat) (a10 : Nat) (a11 : Nat) (a12 : Nat) (a13 : Nat) (a14 : Nat) (a15 : Nat) (a16 : Nat) (a17 : Nat) (sz : Nat) (p1 : Int32) : Met l yL_layer wsL_layer ({ frames := 8, cells := 1, slots := 6, locals := 124 } : Room) (va_Pc [.ref a1, .int p1, .ref a2] (fun U => xB dC dI T [(a1, .inr (16, [.ref a3, .ref a4, .ref a5, .ref a6, .ref a7, .ref a8, .ref a9, .ref a10, .ref a11, .ref a12])), (a3, .inr (10, [.ref a13, .ref a14, .ref a15, .ref a16, .ref a17, .int 0, .int 0]))] sz U)) (va_Qi (fun (r u : Int32) => r = u) (fun (u : Int32) (t : State) => 1 = u ∧ xE dC dI [] (va_A [(a1, .inr (16, [.ref a3, .ref a4, .ref a5, .ref a6, .ref a7, .ref a8, .ref a9, .ref a10, .ref a11, .ref a12])), (a3, .inr (10, [.ref a13, .ref a14, .ref a15, .ref a16, .ref a17, .int 0, .int 0]))] sz) t) (va_A [(a1, .inr (16, [.ref a3, .ref a4, .ref a5, .ref a6, .ref a7, .ref a8, .ref a9, .ref a10, .ref a11, .ref a12])), (a3, .inr (10, [.ref a13, .ref a14, .ref a15, .ref a16, .ref a17, .int 0, .int 0]))] sz)) 1 6 (va_A [(a1, .inr (16, [.ref a3, .ref a4, .ref a5, .ref a6, .ref a7, .ref a8, .ref a9, .ref a10, .ref a11, .ref a12])), (a3, .inr (10, [.ref a13, .ref a14, .ref a15, .ref a16, .ref a17, .int 0, .int 0]))] sz) := by
  refine va_MetW (cc := cL_layer) (maxL := 4) (ret := (some .int)) (hh := [(0, 9, 12, 23)]) (by decide +kernel) rfl ?_
  intro p e s m args below meth c s₁ B hml hv
  obtain ⟨rfl, hsz, hP, hK, hD0, hG⟩ := hv
  have hx := B.exec
  have hb := B.bytes
  have hr := B.returns
  have hts := atoms_spec (ws := wsL_layer) B.pre
  have hown : s.vm.findClass RL = some m.cls := findClass_of_methodNamed B.named
  have hlocks := B.notSynchronized
  have htab := vx_table (x := yL_layer) B (hts (.codeWith yL_layer cL_layer 4 (some .int) [(0, 9, 12, 23)]) (by decide +kernel))
  subst hsz
  have hD := hD0.self (sz := s.heap.size)
  generalize hAe : va_A [(a1, .inr (16, [.ref a3, .ref a4, .ref a5, .ref a6, .ref a7, .ref a8, .ref a9, .ref a10, .ref a11, .ref a12])), (a3, .inr (10, [.ref a13, .ref a14, .ref a15, .ref a16, .ref a17, .int 0, .int 0]))] s.heap.size = A at hD hG ⊢
  have hA : ∀ q : Nat, s.heap.size ≤ q → A q := fun q h => by rw [← hAe]; exact Or.inr h
  have hS : va_S A s.heap s.heap [] := va_S.rf
  have hl := lv_entry ([.ref a1, .int p1, .ref a2]) (n := 4) (Nat.le_of_ble_eq_true rfl)
  rw [lg_entry_eq]
  generalize (lg_sl ([.ref a1, .int p1, .ref a2]) ++ List.replicate (4 - (lg_sl ([.ref a1, .int p1, .ref a2])).length) Slot.unset).toArray = ls at hl ⊢
  have hl : lv_has ls 4 [(0, .ref a1), (1, .int p1), (2, .ref a2)] := hl
  refine lv_aload_n hx hb dL_layer_0 rfl (lv_at hl 2 rfl) ?_
  refine lv_iconst (v := 0) hx hb dL_layer_1 (by decide) ?_
  refine lv_aload_n hx hb dL_layer_2 rfl (lv_at hl 0 rfl) ?_
  refine lv_iload_n hx hb dL_layer_3 rfl (lv_at hl 1 rfl) ?_
  have hPc := hP.sub (ws' := [(a1, .inr (16, [.ref a3, .ref a4, .ref a5, .ref a6, .ref a7, .ref a8, .ref a9, .ref a10, .ref a11, .ref a12])), (a3, .inr (10, [.ref a13, .ref a14, .ref a15, .ref a16, .ref a17, .int 0, .int 0]))]) [0, 1] rfl
  have hDc := hD.sub (ws' := [(a1, .inr (16, [.ref a3, .ref a4, .ref a5, .ref a6, .ref a7, .ref a8, .ref a9, .ref a10, .ref a11, .ref a12])), (a3, .inr (10, [.ref a13, .ref a14, .ref a15, .ref a16, .ref a17, .int 0, .int 0]))]) [0, 1] (by decide) rfl
  have hFc := va_free (wc := [(a1, .inr (16, [.ref a3, .ref a4, .ref a5, .ref a6, .ref a7, .ref a8, .ref a9, .ref a10, .ref a11, .ref a12])), (a3, .inr (10, [.ref a13, .ref a14, .ref a15, .ref a16, .ref a17, .int 0, .int 0]))]) hD hS hA [0, 1] rfl
  refine vx_calli (vx_runV (As := [.int p1]) (rest := [.int 0, .ref a2]) ⟨hx, hb, hml, hown, hts⟩ (xcX11_layer l hst dC dI T a1 a3 a4 a5 a6 a7 a8 a9 a10 a11 a12 a13 a14 a15 a16 a17 s.heap.size p1) (cwV 1 hts gL_layer_X11_layer rfl rfl rfl (by decide +kernel) ⟨Nat.le_of_ble_eq_true rfl, Nat.le_of_ble_eq_true rfl⟩) ⟨xBlind, va_recv hK hPc (ci := 16) (q0 := 0) rfl rfl, xCall hK hG hS hPc hDc hFc⟩ rfl rfl hl.1 rfl (lv_room (Nat.le_of_ble_eq_true rfl)) dL_layer_4 ⟨Nat.le_of_ble_eq_true rfl, Nat.le_of_ble_eq_true rfl⟩) hS (fun q _ h => hFc q h) hFc (fun q _ h => hFc q h) (fun E ce q9 u t H locs ht hvm hw hB hz1 hk1 hS hce hcv hcl => ?_) (fun r_9 u t H locs ht hvm hw hB hz1 hk1 hS => ?_)
  · rcases hB with ⟨hE, hP1, hD1⟩
    subst hE
    rw [ht] at hP1
    obtain ⟨hP, hD⟩ := va_join (wr := []) (w1 := []) hP hD [0, 1] [] rfl rfl (by decide) (by decide) hk1 hFc hP1 hD1
    have hP : va_P (dC, dI) vwCl [] H := hP
    have hD : va_D A [] := hD
    clear hPc hDc hFc hP1 hD1 hk1 hz1 ht hvm
    refine vx_catch (E := "java/lang/IndexOutOfBoundsException") (name := "java/lang/IndexOutOfBoundsException") hown [] ⟨0, 9, 12, 23⟩ [] (htab.trans rfl) (fun _ h => absurd h List.not_mem_nil) (by decide) (by decide) (hts (.classLink RL 23 "java/lang/IndexOutOfBoundsException") (by decide +kernel)) (xBad_use hG.2.2.2.1 _ (by decide +kernel)) hce hcv hcl ?_
    refine lv_astore_n (lv' := [(3, .ref q9), (0, .ref a1), (1, .int p1), (2, .ref a2)]) hx hb dL_layer_12 rfl hl (by decide) rfl (fun ls hl => ?_)
    refine lv_iconst (v := 1) hx hb dL_layer_13 (by decide) ?_
    have hP9 := hP.sub (ws' := []) [] rfl
    have hD9 := hD.sub (ws' := []) [] (by decide) rfl
    exact W.iret (v := 1) hx hb hr (fun t ht hW => ⟨⟨_, _, rfl, rfl, ⟨rfl, by rw [ht]; exact hP9, hD9⟩⟩, hS.F ht⟩) hS.2.2 dL_layer_14
  · exact absurd hB id
set_option maxHeartbeats 4000000 in
set_option maxRecDepth 100000 in
theorem xcX11_move (l : Launch) (hst : l.stackTraces = false) (dC : Nat → ClassId) (dI : Nat → Nat → Nat) (T : Nat → ClassId) (a1 : Nat) (a2 : Nat) (a3 : Nat) (a4 : Nat) (a5 : Nat) (a6 : Nat) (a7 : Nat) (a8 : Nat) (a9 : Nat) (a10 : Nat) (a11 : Nat) (a12 : Nat) (a13 : Nat) (a14 : Nat) (a15 : Nat) (a16 : Nat) (sz : Nat) (p1 : Int32) (p2 : Int32) (p3 : Int32) : vx_Met l yX11_move wsX11_move ({ frames := 7, cells := 1, slots := 6, locals := 103 } : Room) (va_Pc [.ref a1, .int p1, .int p2, .int p3] (fun U => xB dC dI T [(a1, .inr (16, [.ref a2, .ref a3, .ref a4, .ref a5, .ref a6, .ref a7, .ref a8, .ref a9, .ref a10, .ref a11])), (a2, .inr (10, [.ref a12, .ref a13, .ref a14, .ref a15, .ref a16, .int 0, .int 0]))] sz U)) (va_Qi (fun (r u : Int32) => r = u) (fun (u : Int32) (t : State) => False) (va_A [(a1, .inr (16, [.ref a2, .ref a3, .ref a4, .ref a5, .ref a6, .ref a7, .ref a8, .ref a9, .ref a10, .ref a11])), (a2, .inr (10, [.ref a12, .ref a13, .ref a14, .ref a15, .ref a16, .int 0, .int 0]))] sz)) (vx_X (fun _ : Unit => True) (fun (E : String) (_ : Unit) (t : State) => E = "java/lang/IndexOutOfBoundsException" ∧ xE dC dI [] (va_A [(a1, .inr (16, [.ref a2, .ref a3, .ref a4, .ref a5, .ref a6, .ref a7, .ref a8, .ref a9, .ref a10, .ref a11])), (a2, .inr (10, [.ref a12, .ref a13, .ref a14, .ref a15, .ref a16, .int 0, .int 0]))] sz) t) (va_A [(a1, .inr (16, [.ref a2, .ref a3, .ref a4, .ref a5, .ref a6, .ref a7, .ref a8, .ref a9, .ref a10, .ref a11])), (a2, .inr (10, [.ref a12, .ref a13, .ref a14, .ref a15, .ref a16, .int 0, .int 0]))] sz)) 1 6 (va_A [(a1, .inr (16, [.ref a2, .ref a3, .ref a4, .ref a5, .ref a6, .ref a7, .ref a8, .ref a9, .ref a10, .ref a11])), (a2, .inr (10, [.ref a12, .ref a13, .ref a14, .ref a15, .ref a16, .int 0, .int 0]))] sz) := by
  refine vx_ofW (cc := cX11_move) (maxL := 6) (ret := (some .int)) (by decide +kernel) rfl ?_
  intro p e s m args below meth c s₁ B hml hex hv
  obtain ⟨rfl, hsz, hP, hK, hD0, hG⟩ := hv
  have hx := B.exec
  have hb := B.bytes
  have hr := B.returns
  have hts := atoms_spec (ws := wsX11_move) B.pre
  have hown : s.vm.findClass RX11 = some m.cls := findClass_of_methodNamed B.named
  have hlocks := B.notSynchronized
  subst hsz
  have hD := hD0.self (sz := s.heap.size)
  generalize hAe : va_A [(a1, .inr (16, [.ref a2, .ref a3, .ref a4, .ref a5, .ref a6, .ref a7, .ref a8, .ref a9, .ref a10, .ref a11])), (a2, .inr (10, [.ref a12, .ref a13, .ref a14, .ref a15, .ref a16, .int 0, .int 0]))] s.heap.size = A at hD hG ⊢
  have hA : ∀ q : Nat, s.heap.size ≤ q → A q := fun q h => by rw [← hAe]; exact Or.inr h
  have hS : va_S A s.heap s.heap [] := va_S.rf
  have hl := lv_entry ([.ref a1, .int p1, .int p2, .int p3]) (n := 6) (Nat.le_of_ble_eq_true rfl)
  rw [lg_entry_eq]
  generalize (lg_sl ([.ref a1, .int p1, .int p2, .int p3]) ++ List.replicate (6 - (lg_sl ([.ref a1, .int p1, .int p2, .int p3])).length) Slot.unset).toArray = ls at hl ⊢
  have hl : lv_has ls 6 [(0, .ref a1), (1, .int p1), (2, .int p2), (3, .int p3)] := hl
  refine lv_aload_n hx hb dX11_move_0 rfl (lv_at hl 0 rfl) ?_
  refine lv_iload_n hx hb dX11_move_1 rfl (lv_at hl 1 rfl) ?_
  have hPc := hP.sub (ws' := [(a1, .inr (16, [.ref a2, .ref a3, .ref a4, .ref a5, .ref a6, .ref a7, .ref a8, .ref a9, .ref a10, .ref a11])), (a2, .inr (10, [.ref a12, .ref a13, .ref a14, .ref a15, .ref a16, .int 0, .int 0]))]) [0, 1] rfl
  have hDc := hD.sub (ws' := [(a1, .inr (16, [.ref a2, .ref a3, .ref a4, .ref a5, .ref a6, .ref a7, .ref a8, .ref a9, .ref a10, .ref a11])), (a2, .inr (10, [.ref a12, .ref a13, .ref a14, .ref a15, .ref a16, .int 0, .int 0]))]) [0, 1] (by decide) rfl
  have hFc := va_free (wc := [(a1, .inr (16, [.ref a2, .ref a3, .ref a4, .ref a5, .ref a6, .ref a7, .ref a8, .ref a9, .ref a10, .ref a11])), (a2, .inr (10, [.ref a12, .ref a13, .ref a14, .ref a15, .ref a16, .int 0, .int 0]))]) hD hS hA [0, 1] rfl
  refine vx_callv (vx_runV (As := [.int p1]) (rest := []) ⟨hx, hb, hml, hown, hts⟩ (xcX11_needPoint l hst dC dI T a1 a2 a3 a4 a5 a6 a7 a8 a9 a10 a11 a12 a13 a14 a15 a16 s.heap.size p1) (cwV 1 hts gX11_move_X11_needPoint rfl rfl rfl (by decide +kernel) ⟨Nat.le_of_ble_eq_true rfl, Nat.le_of_ble_eq_true rfl⟩) ⟨xBlind, va_recv hK hPc (ci := 16) (q0 := 0) rfl rfl, xCall hK hG hS hPc hDc hFc⟩ rfl rfl hl.1 rfl (lv_room (Nat.le_of_ble_eq_true rfl)) dX11_move_2 ⟨Nat.le_of_ble_eq_true rfl, Nat.le_of_ble_eq_true rfl⟩) hS (fun q _ h => hFc q h) hFc (fun q _ h => hFc q h) (fun E ce q9 u t H locs ht hvm hw hB hz1 hk1 hS hce hcv hcl => ?_) (fun u t H locs ht hvm hw hB hz1 hk1 hS => ?_)
  · rcases hB with ⟨hE, hP1, hD1⟩
    subst hE
    rw [ht] at hP1
    obtain ⟨hP, hD⟩ := va_join (wr := []) (w1 := [(a1, .inr (16, [.ref a2, .ref a3, .ref a4, .ref a5, .ref a6, .ref a7, .ref a8, .ref a9, .ref a10, .ref a11])), (a2, .inr (10, [.ref a12, .ref a13, .ref a14, .ref a15, .ref a16, .int 0, .int 0]))]) hP hD [0, 1] [] rfl rfl (by decide) (by decide) hk1 hFc hP1 hD1
    have hP : va_P (dC, dI) vwCl [(a1, .inr (16, [.ref a2, .ref a3, .ref a4, .ref a5, .ref a6, .ref a7, .ref a8, .ref a9, .ref a10, .ref a11])), (a2, .inr (10, [.ref a12, .ref a13, .ref a14, .ref a15, .ref a16, .int 0, .int 0]))] H := hP
    have hD : va_D A [(a1, .inr (16, [.ref a2, .ref a3, .ref a4, .ref a5, .ref a6, .ref a7, .ref a8, .ref a9, .ref a10, .ref a11])), (a2, .inr (10, [.ref a12, .ref a13, .ref a14, .ref a15, .ref a16, .int 0, .int 0]))] := hD
    clear hPc hDc hFc hP1 hD1 hk1 hz1 ht hvm
    have hP9 := hP.sub (ws' := []) [] rfl
    have hD9 := hD.sub (ws' := []) [] (by decide) rfl
    exact vx_out (fun x hx => absurd (hex x hx) id) hlocks hce hcv hcl (fun t ht _ => ⟨(), trivial, ⟨rfl, by rw [ht]; exact hP9, hD9⟩, hS.F ht⟩) hS.2.2 (Nat.le_of_ble_eq_true rfl) (Nat.le_of_ble_eq_true rfl)
  · exact absurd hB id
set_option maxHeartbeats 4000000 in
set_option maxRecDepth 100000 in
theorem xcL_move (l : Launch) (hst : l.stackTraces = false) (dC : Nat → ClassId) (dI : Nat → Nat → Nat) (T : Nat → ClassId) (a1 : Nat) (a2 : Nat) (a3 : Nat) (a4 : Nat) (a5 : Nat) (a6 : Nat) (a7 : Nat) (a8 : Nat) (a9 : Nat) (a10 : Nat) (a11 : Nat) (a12 : Nat) (a13 : Nat) (a14 : Nat) (a15 : Nat) (a16 : Nat) (a17 : Nat) (sz : Nat) (p1 : Int32) (p2 : Int32) (p3 : Int32) : Met l yL_move wsL_move ({ frames := 8, cells := 1, slots := 6, locals := 128 } : Room) (va_Pc [.ref a1, .int p1, .int p2, .int p3, .ref a2] (fun U => xB dC dI T [(a1, .inr (16, [.ref a3, .ref a4, .ref a5, .ref a6, .ref a7, .ref a8, .ref a9, .ref a10, .ref a11, .ref a12])), (a3, .inr (10, [.ref a13, .ref a14, .ref a15, .ref a16, .ref a17, .int 0, .int 0]))] sz U)) (va_Qi (fun (r u : Int32) => r = u) (fun (u : Int32) (t : State) => 1 = u ∧ xE dC dI [] (va_A [(a1, .inr (16, [.ref a3, .ref a4, .ref a5, .ref a6, .ref a7, .ref a8, .ref a9, .ref a10, .ref a11, .ref a12])), (a3, .inr (10, [.ref a13, .ref a14, .ref a15, .ref a16, .ref a17, .int 0, .int 0]))] sz) t) (va_A [(a1, .inr (16, [.ref a3, .ref a4, .ref a5, .ref a6, .ref a7, .ref a8, .ref a9, .ref a10, .ref a11, .ref a12])), (a3, .inr (10, [.ref a13, .ref a14, .ref a15, .ref a16, .ref a17, .int 0, .int 0]))] sz)) 1 6 (va_A [(a1, .inr (16, [.ref a3, .ref a4, .ref a5, .ref a6, .ref a7, .ref a8, .ref a9, .ref a10, .ref a11, .ref a12])), (a3, .inr (10, [.ref a13, .ref a14, .ref a15, .ref a16, .ref a17, .int 0, .int 0]))] sz) := by
  refine va_MetW (cc := cL_move) (maxL := 6) (ret := (some .int)) (hh := [(0, 12, 15, 23), (0, 12, 19, 13), (0, 12, 23, 15)]) (by decide +kernel) rfl ?_
  intro p e s m args below meth c s₁ B hml hv
  obtain ⟨rfl, hsz, hP, hK, hD0, hG⟩ := hv
  have hx := B.exec
  have hb := B.bytes
  have hr := B.returns
  have hts := atoms_spec (ws := wsL_move) B.pre
  have hown : s.vm.findClass RL = some m.cls := findClass_of_methodNamed B.named
  have hlocks := B.notSynchronized
  have htab := vx_table (x := yL_move) B (hts (.codeWith yL_move cL_move 6 (some .int) [(0, 12, 15, 23), (0, 12, 19, 13), (0, 12, 23, 15)]) (by decide +kernel))
  subst hsz
  have hD := hD0.self (sz := s.heap.size)
  generalize hAe : va_A [(a1, .inr (16, [.ref a3, .ref a4, .ref a5, .ref a6, .ref a7, .ref a8, .ref a9, .ref a10, .ref a11, .ref a12])), (a3, .inr (10, [.ref a13, .ref a14, .ref a15, .ref a16, .ref a17, .int 0, .int 0]))] s.heap.size = A at hD hG ⊢
  have hA : ∀ q : Nat, s.heap.size ≤ q → A q := fun q h => by rw [← hAe]; exact Or.inr h
  have hS : va_S A s.heap s.heap [] := va_S.rf
  have hl := lv_entry ([.ref a1, .int p1, .int p2, .int p3, .ref a2]) (n := 6) (Nat.le_of_ble_eq_true rfl)
  rw [lg_entry_eq]
  generalize (lg_sl ([.ref a1, .int p1, .int p2, .int p3, .ref a2]) ++ List.replicate (6 - (lg_sl ([.ref a1, .int p1, .int p2, .int p3, .ref a2])).length) Slot.unset).toArray = ls at hl ⊢
  have hl : lv_has ls 6 [(0, .ref a1), (1, .int p1), (2, .int p2), (3, .int p3), (4, .ref a2)] := hl
  refine lv_aload hx hb dL_move_0 (lv_at hl 4 rfl) ?_
  refine lv_iconst (v := 0) hx hb dL_move_2 (by decide) ?_
  refine lv_aload_n hx hb dL_move_3 rfl (lv_at hl 0 rfl) ?_
  refine lv_iload_n hx hb dL_move_4 rfl (lv_at hl 1 rfl) ?_
  refine lv_iload_n hx hb dL_move_5 rfl (lv_at hl 2 rfl) ?_
  refine lv_iload_n hx hb dL_move_6 rfl (lv_at hl 3 rfl) ?_
  have hPc := hP.sub (ws' := [(a1, .inr (16, [.ref a3, .ref a4, .ref a5, .ref a6, .ref a7, .ref a8, .ref a9, .ref a10, .ref a11, .ref a12])), (a3, .inr (10, [.ref a13, .ref a14, .ref a15, .ref a16, .ref a17, .int 0, .int 0]))]) [0, 1] rfl
  have hDc := hD.sub (ws' := [(a1, .inr (16, [.ref a3, .ref a4, .ref a5, .ref a6, .ref a7, .ref a8, .ref a9, .ref a10, .ref a11, .ref a12])), (a3, .inr (10, [.ref a13, .ref a14, .ref a15, .ref a16, .ref a17, .int 0, .int 0]))]) [0, 1] (by decide) rfl
  have hFc := va_free (wc := [(a1, .inr (16, [.ref a3, .ref a4, .ref a5, .ref a6, .ref a7, .ref a8, .ref a9, .ref a10, .ref a11, .ref a12])), (a3, .inr (10, [.ref a13, .ref a14, .ref a15, .ref a16, .ref a17, .int 0, .int 0]))]) hD hS hA [0, 1] rfl
  refine vx_calli (vx_runV (As := [.int p1, .int p2, .int p3]) (rest := [.int 0, .ref a2]) ⟨hx, hb, hml, hown, hts⟩ (xcX11_move l hst dC dI T a1 a3 a4 a5 a6 a7 a8 a9 a10 a11 a12 a13 a14 a15 a16 a17 s.heap.size p1 p2 p3) (cwV 3 hts gL_move_X11_move rfl rfl rfl (by decide +kernel) ⟨Nat.le_of_ble_eq_true rfl, Nat.le_of_ble_eq_true rfl⟩) ⟨xBlind, va_recv hK hPc (ci := 16) (q0 := 0) rfl rfl, xCall hK hG hS hPc hDc hFc⟩ rfl rfl hl.1 rfl (lv_room (Nat.le_of_ble_eq_true rfl)) dL_move_7 ⟨Nat.le_of_ble_eq_true rfl, Nat.le_of_ble_eq_true rfl⟩) hS (fun q _ h => hFc q h) hFc (fun q _ h => hFc q h) (fun E ce q9 u t H locs ht hvm hw hB hz1 hk1 hS hce hcv hcl => ?_) (fun r_9 u t H locs ht hvm hw hB hz1 hk1 hS => ?_)
  · rcases hB with ⟨hE, hP1, hD1⟩
    subst hE
    rw [ht] at hP1
    obtain ⟨hP, hD⟩ := va_join (wr := []) (w1 := []) hP hD [0, 1] [] rfl rfl (by decide) (by decide) hk1 hFc hP1 hD1
    have hP : va_P (dC, dI) vwCl [] H := hP
    have hD : va_D A [] := hD
    clear hPc hDc hFc hP1 hD1 hk1 hz1 ht hvm
    refine vx_catch (E := "java/lang/IndexOutOfBoundsException") (name := "java/lang/IndexOutOfBoundsException") hown [] ⟨0, 12, 15, 23⟩ [⟨0, 12, 19, 13⟩, ⟨0, 12, 23, 15⟩] (htab.trans rfl) (fun _ h => absurd h List.not_mem_nil) (by decide) (by decide) (hts (.classLink RL 23 "java/lang/IndexOutOfBoundsException") (by decide +kernel)) (xBad_use hG.2.2.2.1 _ (by decide +kernel)) hce hcv hcl ?_
    refine lv_astore (lv' := [(5, .ref q9), (0, .ref a1), (1, .int p1), (2, .int p2), (3, .int p3), (4, .ref a2)]) hx hb dL_move_15 hl (by decide) rfl (fun ls hl => ?_)
    refine lv_iconst (v := 1) hx hb dL_move_17 (by decide) ?_
    have hP9 := hP.sub (ws' := []) [] rfl
    have hD9 := hD.sub (ws' := []) [] (by decide) rfl
    exact W.iret (v := 1) hx hb hr (fun t ht hW => ⟨⟨_, _, rfl, rfl, ⟨rfl, by rw [ht]; exact hP9, hD9⟩⟩, hS.F ht⟩) hS.2.2 dL_move_18
  · exact absurd hB id
