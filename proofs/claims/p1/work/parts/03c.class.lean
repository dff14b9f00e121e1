set_option maxHeartbeats 4000000 in
set_option maxRecDepth 100000 in
theorem xcX11_needRange_v6 (l : Launch) (hst : l.stackTraces = false) (dC : Nat → ClassId) (dI : Nat → Nat → Nat) (T : Nat → ClassId) (sz : Nat) (p0 : Int32) : vx_Met l yX11_needRange wsX11_needRange ({ frames := 6, cells := 1, slots := 6, locals := 82 } : Room) (va_Pc [.int p0, .int 1, .int 20] (fun U => xB dC dI T [] sz U)) (va_Qv (fun _ : Unit => True) (fun (_ : Unit) (t : State) => ((¬ (p0.toInt < 1)) ∧ (p0.toInt ≤ 20)) ∧ xE dC dI [] (va_A [] sz) t) (va_A [] sz)) (vx_X (fun _ : Unit => True) (fun (E : String) (_ : Unit) (t : State) => ((p0.toInt < 1) ∨ ((¬ (p0.toInt < 1)) ∧ (¬ (p0.toInt ≤ 20)))) ∧ E = "java/lang/IllegalArgumentException" ∧ xE dC dI [] (va_A [] sz) t) (va_A [] sz)) 1 6 (va_A [] sz) := by
  refine vx_ofW (cc := cX11_needRange) (maxL := 3) (ret := none) (by decide +kernel) rfl ?_
  intro p e s m args below meth c s₁ B hml hex hv
  obtain ⟨rfl, hsz, hP, hK, hD0, hG⟩ := hv
  have hx := B.exec
  have hb := B.bytes
  have hr := B.returns
  have hts := atoms_spec (ws := wsX11_needRange) B.pre
  have hown : s.vm.findClass RX11 = some m.cls := findClass_of_methodNamed B.named
  have hlocks := B.notSynchronized
  have hm_214 : ∀ w ∈ (vx_atS RX11 214 "java/lang/IllegalArgumentException" ["java/lang/RuntimeException", "java/lang/Exception"]).filter goodWord, w ∈ wsX11_needRange := by decide +kernel
  have hat_214 : ∀ w ∈ vx_atS RX11 214 "java/lang/IllegalArgumentException" ["java/lang/RuntimeException", "java/lang/Exception"], w.before (#[.int p0, .int 1, .int 20] : Array Value) s = true := vx_hat (B := xBad) (fun w hw => hts w (hm_214 w hw)) (by decide +kernel) (xBad_use hG.2.2.2.1)
  subst hsz
  have hD := hD0.self (sz := s.heap.size)
  generalize hAe : va_A [] s.heap.size = A at hD hG ⊢
  have hA : ∀ q : Nat, s.heap.size ≤ q → A q := fun q h => by rw [← hAe]; exact Or.inr h
  have hS : va_S A s.heap s.heap [] := va_S.rf
  have hl := lv_entry ([.int p0, .int 1, .int 20]) (n := 3) (Nat.le_of_ble_eq_true rfl)
  rw [lg_entry_eq]
  generalize (lg_sl ([.int p0, .int 1, .int 20]) ++ List.replicate (3 - (lg_sl ([.int p0, .int 1, .int 20])).length) Slot.unset).toArray = ls at hl ⊢
  have hl : lv_has ls 3 [(0, .int p0), (1, .int 1), (2, .int 20)] := hl
  refine lv_iload_n hx hb dX11_needRange_0 rfl (lv_at hl 0 rfl) ?_
  refine lv_iload_n hx hb dX11_needRange_1 rfl (lv_at hl 1 rfl) ?_
  refine lv_icmp_lt (tgt := 10) hx hb dX11_needRange_2 (by decide) (fun c_1 => ?_) (fun c_1 => ?_)
  · have nc_1 : p0.toInt < 1 := (xi_lt rfl (by decide +kernel)).mp c_1
    obtain ⟨sa, hsa⟩ := hG.2.2.2.2.1 (RX11, 385, "a number is out of range") (by decide +kernel)
    have hP9 := hP.sub (ws' := []) [] rfl
    have hD9 := hD.sub (ws' := []) [] (by decide) rfl
    exact vx_throwSW (cls := "java/lang/IllegalArgumentException") (names := ["java/lang/RuntimeException", "java/lang/Exception"]) (text := "a number is out of range") (ic := 214) hx hb hst hown (by decide +kernel) (by decide +kernel) (hts (.classLink RX11 210 "java/lang/IllegalArgumentException") (by decide +kernel)) (hts (.initialized "java/lang/IllegalArgumentException") (by decide +kernel)) hsa hat_214 (by decide +kernel) hG.1 hG.2.1 hS (by rw [hml]; exact hl.1) dX11_needRange_10 dX11_needRange_13 dX11_needRange_14 dX11_needRange_17 dX11_needRange_20 (fun x hx => absurd (hex x hx) id) (Nat.le_of_ble_eq_true rfl) (Nat.le_of_ble_eq_true rfl) (Nat.le_of_ble_eq_true rfl) (Nat.le_of_ble_eq_true rfl) hlocks (fun t hvm hz1 hk1 => ⟨(), trivial, ⟨(Or.inl nc_1), rfl, hP9.kept (fun k x hx => hk1 x.1 ((hP9 k x hx).lt)), hD9⟩, xthrF hS hz1 hk1⟩) hS.2.2 (Nat.le_of_ble_eq_true rfl) (Nat.le_of_ble_eq_true rfl)
  · have nc_1 : ¬ (p0.toInt < 1) := mt (xi_lt rfl (by decide +kernel)).mpr c_1
    refine lv_iload_n hx hb dX11_needRange_5 rfl (lv_at hl 0 rfl) ?_
    refine lv_iload_n hx hb dX11_needRange_6 rfl (lv_at hl 2 rfl) ?_
    refine lv_icmp_le (tgt := 21) hx hb dX11_needRange_7 (by decide) (fun c_2 => ?_) (fun c_2 => ?_)
    · have nc_2 : p0.toInt ≤ 20 := (xi_le rfl (by decide +kernel)).mp c_2
      refine vx_ret ?_
      have hP9 := hP.sub (ws' := []) [] rfl
      have hD9 := hD.sub (ws' := []) [] (by decide) rfl
      refine W.widen (k := 1) (n := 6) (Nat.le_of_ble_eq_true rfl) (Nat.le_of_ble_eq_true rfl) ?_
      exact W.vret hx hb hr (fun t ht hW => ⟨⟨(), rfl, trivial, ⟨⟨nc_1, nc_2⟩, by rw [ht]; exact hP9, hD9⟩⟩, hS.F ht⟩) hS.2.2 dX11_needRange_21
    · have nc_2 : ¬ (p0.toInt ≤ 20) := mt (xi_le rfl (by decide +kernel)).mpr c_2
      obtain ⟨sa, hsa⟩ := hG.2.2.2.2.1 (RX11, 385, "a number is out of range") (by decide +kernel)
      have hP9 := hP.sub (ws' := []) [] rfl
      have hD9 := hD.sub (ws' := []) [] (by decide) rfl
      exact vx_throwSW (cls := "java/lang/IllegalArgumentException") (names := ["java/lang/RuntimeException", "java/lang/Exception"]) (text := "a number is out of range") (ic := 214) hx hb hst hown (by decide +kernel) (by decide +kernel) (hts (.classLink RX11 210 "java/lang/IllegalArgumentException") (by decide +kernel)) (hts (.initialized "java/lang/IllegalArgumentException") (by decide +kernel)) hsa hat_214 (by decide +kernel) hG.1 hG.2.1 hS (by rw [hml]; exact hl.1) dX11_needRange_10 dX11_needRange_13 dX11_needRange_14 dX11_needRange_17 dX11_needRange_20 (fun x hx => absurd (hex x hx) id) (Nat.le_of_ble_eq_true rfl) (Nat.le_of_ble_eq_true rfl) (Nat.le_of_ble_eq_true rfl) (Nat.le_of_ble_eq_true rfl) hlocks (fun t hvm hz1 hk1 => ⟨(), trivial, ⟨(Or.inr (⟨nc_1, nc_2⟩)), rfl, hP9.kept (fun k x hx => hk1 x.1 ((hP9 k x hx).lt)), hD9⟩, xthrF hS hz1 hk1⟩) hS.2.2 (Nat.le_of_ble_eq_true rfl) (Nat.le_of_ble_eq_true rfl)
set_option maxHeartbeats 4000000 in
set_option maxRecDepth 100000 in
theorem xcX5_hasRoomAfter (l : Launch) (hst : l.stackTraces = false) (dC : Nat → ClassId) (dI : Nat → Nat → Nat) (T : Nat → ClassId) (a1 : Nat) (a2 : Nat) (a3 : Nat) (a4 : Nat) (a5 : Nat) (a6 : Nat) (sz : Nat) (p1 : Int32) : Met l yX5_hasRoomAfter wsX5_hasRoomAfter ({ frames := 2, cells := 0, slots := 0, locals := 42 } : Room) (va_Pc [.ref a1, .int p1] (fun U => xB dC dI T [(a1, .inr (10, [.ref a2, .ref a3, .ref a4, .ref a5, .ref a6, .int 0, .int 0]))] sz U)) (va_Qi (fun (r u : Int32) => r = u) (fun (u : Int32) (t : State) => 1 = u ∧ xE dC dI [(a1, .inr (10, [.ref a2, .ref a3, .ref a4, .ref a5, .ref a6, .int 0, .int 0]))] (va_A [(a1, .inr (10, [.ref a2, .ref a3, .ref a4, .ref a5, .ref a6, .int 0, .int 0]))] sz) t) (va_A [(a1, .inr (10, [.ref a2, .ref a3, .ref a4, .ref a5, .ref a6, .int 0, .int 0]))] sz)) 0 0 (va_A [(a1, .inr (10, [.ref a2, .ref a3, .ref a4, .ref a5, .ref a6, .int 0, .int 0]))] sz) := by
  refine Met.ofW (cc := cX5_hasRoomAfter) (maxL := 3) (ret := (some .boolean)) (by decide +kernel) rfl ?_
  intro p e s m args below meth c s₁ B hml hv
  obtain ⟨rfl, hsz, hP, hK, hD0, hG⟩ := hv
  have hx := B.exec
  have hb := B.bytes
  have hr := B.returns
  have hts := atoms_spec (ws := wsX5_hasRoomAfter) B.pre
  have hown : s.vm.findClass RX5 = some m.cls := findClass_of_methodNamed B.named
  have hlocks := B.notSynchronized
  subst hsz
  have hD := hD0.self (sz := s.heap.size)
  generalize hAe : va_A [(a1, .inr (10, [.ref a2, .ref a3, .ref a4, .ref a5, .ref a6, .int 0, .int 0]))] s.heap.size = A at hD hG ⊢
  have hA : ∀ q : Nat, s.heap.size ≤ q → A q := fun q h => by rw [← hAe]; exact Or.inr h
  have hS : va_S A s.heap s.heap [] := va_S.rf
  have hl := lv_entry ([.ref a1, .int p1]) (n := 3) (Nat.le_of_ble_eq_true rfl)
  rw [lg_entry_eq]
  generalize (lg_sl ([.ref a1, .int p1]) ++ List.replicate (3 - (lg_sl ([.ref a1, .int p1])).length) Slot.unset).toArray = ls at hl ⊢
  have hl : lv_has ls 3 [(0, .ref a1), (1, .int p1)] := hl
  refine lv_iconst (v := 0) hx hb dX5_hasRoomAfter_0 (by decide) ?_
  refine lv_istore_n (lv' := [(2, .int 0), (0, .ref a1), (1, .int p1)]) hx hb dX5_hasRoomAfter_1 rfl hl (by decide) rfl (fun ls hl => ?_)
  refine xLoop (P := fun i_k_1 H locs ls => va_P (dC, dI) vwCl [(a1, .inr (10, [.ref a2, .ref a3, .ref a4, .ref a5, .ref a6, .int 0, .int 0]))] H ∧ va_D A [(a1, .inr (10, [.ref a2, .ref a3, .ref a4, .ref a5, .ref a6, .int 0, .int 0]))] ∧ va_S A s.heap H locs ∧ lv_has ls 3 [(2, .int (nI i_k_1)), (0, .ref a1), (1, .int p1)]) (N := 12) (fun i_k_1 H locs ls hi_k_1 hI ih_k_1 => ?_) (0) _ _ _ (by omega) ⟨hP, hD, hS, lv_sub hl [0, 1, 2] rfl⟩
  obtain ⟨hP, hD, hS, hl⟩ := hI
  refine lv_iload_n hx hb dX5_hasRoomAfter_2 rfl (lv_at hl 0 rfl) ?_
  refine lv_bipush (v := 12) hx hb dX5_hasRoomAfter_3 (by decide) ?_
  have hz_3 : (nI i_k_1).toInt = ((i_k_1 : Nat) : Int) := nI_toInt (by omega)
  refine lv_icmp_ge (tgt := 42) hx hb dX5_hasRoomAfter_5 (by decide) (fun c_2 => ?_) (fun c_2 => ?_)
  · have nc_2 : 12 ≤ (nI i_k_1).toInt := (xi_le (by decide +kernel) rfl).mp c_2
    refine lv_iconst (v := 1) hx hb dX5_hasRoomAfter_42 (by decide) ?_
    have hP9 := hP.sub (ws' := [(a1, .inr (10, [.ref a2, .ref a3, .ref a4, .ref a5, .ref a6, .int 0, .int 0]))]) [0] rfl
    have hD9 := hD.sub (ws' := [(a1, .inr (10, [.ref a2, .ref a3, .ref a4, .ref a5, .ref a6, .int 0, .int 0]))]) [0] (by decide) rfl
    exact W.zret (v := 1) hx hb hr (by decide) (fun t ht hW => ⟨⟨_, _, rfl, rfl, ⟨rfl, by rw [ht]; exact hP9, hD9⟩⟩, hS.F ht⟩) hS.2.2 dX5_hasRoomAfter_43
  · have nc_2 : ¬ (12 ≤ (nI i_k_1).toInt) := mt (xi_le (by decide +kernel) rfl).mpr c_2
    refine lv_aload_n hx hb dX5_hasRoomAfter_8 rfl (lv_at hl 1 rfl) ?_
    refine lv_iload_n hx hb dX5_hasRoomAfter_9 rfl (lv_at hl 0 rfl) ?_
    have hPc := hP.sub (ws' := [(a1, .inr (10, [.ref a2, .ref a3, .ref a4, .ref a5, .ref a6, .int 0, .int 0]))]) [0] rfl
    have hDc := hD.sub (ws' := [(a1, .inr (10, [.ref a2, .ref a3, .ref a4, .ref a5, .ref a6, .int 0, .int 0]))]) [0] (by decide) rfl
    have hFc := va_free (wc := [(a1, .inr (10, [.ref a2, .ref a3, .ref a4, .ref a5, .ref a6, .int 0, .int 0]))]) hD hS hA [0] rfl
    refine va_calli (va_runV (As := [.int (nI i_k_1)]) (rest := []) ⟨hx, hb, hml, hown, hts⟩ (xcX5_has l hst dC dI T a1 a2 a3 a4 a5 a6 H.size (nI i_k_1)) (cwV 1 hts gX5_hasRoomAfter_X5_has rfl rfl rfl (by decide +kernel) ⟨Nat.le_of_ble_eq_true rfl, Nat.le_of_ble_eq_true rfl⟩) ⟨xBlind, va_recv hK hPc (ci := 10) (q0 := 0) rfl rfl, xCall hK hG hS hPc hDc hFc⟩ rfl rfl hl.1 rfl (lv_room (Nat.le_of_ble_eq_true rfl)) dX5_hasRoomAfter_10 ⟨Nat.le_of_ble_eq_true rfl, Nat.le_of_ble_eq_true rfl⟩) hS (fun q _ h => hFc q h) hFc (fun r_9 u t H locs ht hvm hw hB hz1 hk1 hS => ?_)
    subst hw
    rcases hB with ⟨hr_9, hP1, hD1⟩
    rw [ht] at hP1
    subst hr_9
    obtain ⟨hP, hD⟩ := va_join (wr := []) (w1 := [(a1, .inr (10, [.ref a2, .ref a3, .ref a4, .ref a5, .ref a6, .int 0, .int 0]))]) hP hD [0] [] rfl rfl (by decide) (by decide) hk1 hFc hP1 hD1
    have hP : va_P (dC, dI) vwCl [(a1, .inr (10, [.ref a2, .ref a3, .ref a4, .ref a5, .ref a6, .int 0, .int 0]))] H := hP
    have hD : va_D A [(a1, .inr (10, [.ref a2, .ref a3, .ref a4, .ref a5, .ref a6, .int 0, .int 0]))] := hD
    clear hPc hDc hFc hP1 hD1 hk1 hz1 ht hvm
    refine lv_if_eq (tgt := 36) hx hb dX5_hasRoomAfter_13 (by decide) (fun c_5 => ?_) (fun c_5 => absurd (by decide) c_5)
    refine lv_iinc (v := (nI (i_k_1 + 1))) (lv' := [(2, .int (nI (i_k_1 + 1))), (0, .ref a1), (1, .int p1)]) hx hb dX5_hasRoomAfter_36 hl (k := 0) rfl (nI_1 _) (by decide) rfl (fun ls hl => ?_)
    refine lv_goto (tgt := 2) hx hb dX5_hasRoomAfter_39 (by decide) ?_
    exact ih_k_1 _ _ _ (by omega) ⟨hP, hD, hS, lv_sub hl [0, 1, 2] rfl⟩
set_option maxHeartbeats 4000000 in
set_option maxRecDepth 100000 in
theorem xcX5_goOn (l : Launch) (hst : l.stackTraces = false) (dC : Nat → ClassId) (dI : Nat → Nat → Nat) (T : Nat → ClassId) (a1 : Nat) (a2 : Nat) (a3 : Nat) (a4 : Nat) (a5 : Nat) (a6 : Nat) (sz : Nat) (p1 : Int32) : Met l yX5_goOn wsX5_goOn ({ frames := 2, cells := 0, slots := 0, locals := 42 } : Room) (va_Pc [.ref a1, .int p1] (fun U => xB dC dI T [(a1, .inr (10, [.ref a2, .ref a3, .ref a4, .ref a5, .ref a6, .int 0, .int 0]))] sz U)) (va_Qi (fun (r u : Int32) => r = u) (fun (u : Int32) (t : State) => 0 = u ∧ xE dC dI [(a1, .inr (10, [.ref a2, .ref a3, .ref a4, .ref a5, .ref a6, .int 0, .int 0]))] (va_A [(a1, .inr (10, [.ref a2, .ref a3, .ref a4, .ref a5, .ref a6, .int 0, .int 0]))] sz) t) (va_A [(a1, .inr (10, [.ref a2, .ref a3, .ref a4, .ref a5, .ref a6, .int 0, .int 0]))] sz)) 0 0 (va_A [(a1, .inr (10, [.ref a2, .ref a3, .ref a4, .ref a5, .ref a6, .int 0, .int 0]))] sz) := by
  refine Met.ofW (cc := cX5_goOn) (maxL := 4) (ret := (some .int)) (by decide +kernel) rfl ?_
  intro p e s m args below meth c s₁ B hml hv
  obtain ⟨rfl, hsz, hP, hK, hD0, hG⟩ := hv
  have hx := B.exec
  have hb := B.bytes
  have hr := B.returns
  have hts := atoms_spec (ws := wsX5_goOn) B.pre
  have hown : s.vm.findClass RX5 = some m.cls := findClass_of_methodNamed B.named
  have hlocks := B.notSynchronized
  subst hsz
  have hD := hD0.self (sz := s.heap.size)
  generalize hAe : va_A [(a1, .inr (10, [.ref a2, .ref a3, .ref a4, .ref a5, .ref a6, .int 0, .int 0]))] s.heap.size = A at hD hG ⊢
  have hA : ∀ q : Nat, s.heap.size ≤ q → A q := fun q h => by rw [← hAe]; exact Or.inr h
  have hS : va_S A s.heap s.heap [] := va_S.rf
  have hl := lv_entry ([.ref a1, .int p1]) (n := 4) (Nat.le_of_ble_eq_true rfl)
  rw [lg_entry_eq]
  generalize (lg_sl ([.ref a1, .int p1]) ++ List.replicate (4 - (lg_sl ([.ref a1, .int p1])).length) Slot.unset).toArray = ls at hl ⊢
  have hl : lv_has ls 4 [(0, .ref a1), (1, .int p1)] := hl
  refine lv_iconst (v := 0) hx hb dX5_goOn_0 (by decide) ?_
  refine lv_istore_n (lv' := [(2, .int 0), (0, .ref a1), (1, .int p1)]) hx hb dX5_goOn_1 rfl hl (by decide) rfl (fun ls hl => ?_)
  refine lv_iconst (v := 0) hx hb dX5_goOn_2 (by decide) ?_
  refine lv_istore_n (lv' := [(3, .int 0), (2, .int 0), (0, .ref a1), (1, .int p1)]) hx hb dX5_goOn_3 rfl hl (by decide) rfl (fun ls hl => ?_)
  refine xLoop (P := fun i_k_1 H locs ls => va_P (dC, dI) vwCl [(a1, .inr (10, [.ref a2, .ref a3, .ref a4, .ref a5, .ref a6, .int 0, .int 0]))] H ∧ va_D A [(a1, .inr (10, [.ref a2, .ref a3, .ref a4, .ref a5, .ref a6, .int 0, .int 0]))] ∧ va_S A s.heap H locs ∧ lv_has ls 4 [(3, .int (nI i_k_1)), (2, .int 0), (0, .ref a1), (1, .int p1)]) (N := 12) (fun i_k_1 H locs ls hi_k_1 hI ih_k_1 => ?_) (0) _ _ _ (by omega) ⟨hP, hD, hS, lv_sub hl [0, 1, 2, 3] rfl⟩
  obtain ⟨hP, hD, hS, hl⟩ := hI
  refine lv_iload_n hx hb dX5_goOn_4 rfl (lv_at hl 0 rfl) ?_
  refine lv_bipush (v := 12) hx hb dX5_goOn_5 (by decide) ?_
  have hz_3 : (nI i_k_1).toInt = ((i_k_1 : Nat) : Int) := nI_toInt (by omega)
  refine lv_icmp_ge (tgt := 70) hx hb dX5_goOn_7 (by decide) (fun c_2 => ?_) (fun c_2 => ?_)
  · have nc_2 : 12 ≤ (nI i_k_1).toInt := (xi_le (by decide +kernel) rfl).mp c_2
    refine lv_iload_n hx hb dX5_goOn_70 rfl (lv_at hl 1 rfl) ?_
    have hP9 := hP.sub (ws' := [(a1, .inr (10, [.ref a2, .ref a3, .ref a4, .ref a5, .ref a6, .int 0, .int 0]))]) [0] rfl
    have hD9 := hD.sub (ws' := [(a1, .inr (10, [.ref a2, .ref a3, .ref a4, .ref a5, .ref a6, .int 0, .int 0]))]) [0] (by decide) rfl
    exact W.iret (v := 0) hx hb hr (fun t ht hW => ⟨⟨_, _, rfl, rfl, ⟨rfl, by rw [ht]; exact hP9, hD9⟩⟩, hS.F ht⟩) hS.2.2 dX5_goOn_71
  · have nc_2 : ¬ (12 ≤ (nI i_k_1).toInt) := mt (xi_le (by decide +kernel) rfl).mpr c_2
    refine lv_aload_n hx hb dX5_goOn_10 rfl (lv_at hl 2 rfl) ?_
    refine lv_iload_n hx hb dX5_goOn_11 rfl (lv_at hl 0 rfl) ?_
    have hPc := hP.sub (ws' := [(a1, .inr (10, [.ref a2, .ref a3, .ref a4, .ref a5, .ref a6, .int 0, .int 0]))]) [0] rfl
    have hDc := hD.sub (ws' := [(a1, .inr (10, [.ref a2, .ref a3, .ref a4, .ref a5, .ref a6, .int 0, .int 0]))]) [0] (by decide) rfl
    have hFc := va_free (wc := [(a1, .inr (10, [.ref a2, .ref a3, .ref a4, .ref a5, .ref a6, .int 0, .int 0]))]) hD hS hA [0] rfl
    refine va_calli (va_runV (As := [.int (nI i_k_1)]) (rest := []) ⟨hx, hb, hml, hown, hts⟩ (xcX5_has l hst dC dI T a1 a2 a3 a4 a5 a6 H.size (nI i_k_1)) (cwV 1 hts gX5_goOn_X5_has rfl rfl rfl (by decide +kernel) ⟨Nat.le_of_ble_eq_true rfl, Nat.le_of_ble_eq_true rfl⟩) ⟨xBlind, va_recv hK hPc (ci := 10) (q0 := 0) rfl rfl, xCall hK hG hS hPc hDc hFc⟩ rfl rfl hl.1 rfl (lv_room (Nat.le_of_ble_eq_true rfl)) dX5_goOn_12 ⟨Nat.le_of_ble_eq_true rfl, Nat.le_of_ble_eq_true rfl⟩) hS (fun q _ h => hFc q h) hFc (fun r_9 u t H locs ht hvm hw hB hz1 hk1 hS => ?_)
    subst hw
    rcases hB with ⟨hr_9, hP1, hD1⟩
    rw [ht] at hP1
    subst hr_9
    obtain ⟨hP, hD⟩ := va_join (wr := []) (w1 := [(a1, .inr (10, [.ref a2, .ref a3, .ref a4, .ref a5, .ref a6, .int 0, .int 0]))]) hP hD [0] [] rfl rfl (by decide) (by decide) hk1 hFc hP1 hD1
    have hP : va_P (dC, dI) vwCl [(a1, .inr (10, [.ref a2, .ref a3, .ref a4, .ref a5, .ref a6, .int 0, .int 0]))] H := hP
    have hD : va_D A [(a1, .inr (10, [.ref a2, .ref a3, .ref a4, .ref a5, .ref a6, .int 0, .int 0]))] := hD
    clear hPc hDc hFc hP1 hD1 hk1 hz1 ht hvm
    refine lv_if_eq (tgt := 64) hx hb dX5_goOn_15 (by decide) (fun c_5 => ?_) (fun c_5 => absurd (by decide) c_5)
    refine lv_iinc (v := (nI (i_k_1 + 1))) (lv' := [(3, .int (nI (i_k_1 + 1))), (2, .int 0), (0, .ref a1), (1, .int p1)]) hx hb dX5_goOn_64 hl (k := 0) rfl (nI_1 _) (by decide) rfl (fun ls hl => ?_)
    refine lv_goto (tgt := 4) hx hb dX5_goOn_67 (by decide) ?_
    exact ih_k_1 _ _ _ (by omega) ⟨hP, hD, hS, lv_sub hl [0, 1, 2, 3] rfl⟩
set_option maxHeartbeats 4000000 in
set_option maxRecDepth 100000 in
theorem xcX11_pass (l : Launch) (hst : l.stackTraces = false) (dC : Nat → ClassId) (dI : Nat → Nat → Nat) (T : Nat → ClassId) (a1 : Nat) (a2 : Nat) (a3 : Nat) (a4 : Nat) (a5 : Nat) (a6 : Nat) (a7 : Nat) (a8 : Nat) (a9 : Nat) (a10 : Nat) (a11 : Nat) (a12 : Nat) (a13 : Nat) (a14 : Nat) (a15 : Nat) (a16 : Nat) (sz : Nat) (p1 : Int32) : vx_Met l yX11_pass wsX11_pass ({ frames := 7, cells := 1, slots := 6, locals := 104 } : Room) (va_Pc [.ref a1, .int p1] (fun U => xB dC dI T [(a1, .inr (16, [.ref a2, .ref a3, .ref a4, .ref a5, .ref a6, .ref a7, .ref a8, .ref a9, .ref a10, .ref a11])), (a2, .inr (10, [.ref a12, .ref a13, .ref a14, .ref a15, .ref a16, .int 0, .int 0]))] sz U)) (va_Qi (fun (r u : Int32) => r = u) (fun (u : Int32) (t : State) => ((¬ (p1.toInt < 1)) ∧ (p1.toInt ≤ 20)) ∧ 0 = u ∧ xE dC dI [] (va_A [(a1, .inr (16, [.ref a2, .ref a3, .ref a4, .ref a5, .ref a6, .ref a7, .ref a8, .ref a9, .ref a10, .ref a11])), (a2, .inr (10, [.ref a12, .ref a13, .ref a14, .ref a15, .ref a16, .int 0, .int 0]))] sz) t) (va_A [(a1, .inr (16, [.ref a2, .ref a3, .ref a4, .ref a5, .ref a6, .ref a7, .ref a8, .ref a9, .ref a10, .ref a11])), (a2, .inr (10, [.ref a12, .ref a13, .ref a14, .ref a15, .ref a16, .int 0, .int 0]))] sz)) (vx_X (fun _ : Unit => True) (fun (E : String) (_ : Unit) (t : State) => ((p1.toInt < 1) ∨ ((¬ (p1.toInt < 1)) ∧ (¬ (p1.toInt ≤ 20)))) ∧ E = "java/lang/IllegalArgumentException" ∧ xE dC dI [] (va_A [(a1, .inr (16, [.ref a2, .ref a3, .ref a4, .ref a5, .ref a6, .ref a7, .ref a8, .ref a9, .ref a10, .ref a11])), (a2, .inr (10, [.ref a12, .ref a13, .ref a14, .ref a15, .ref a16, .int 0, .int 0]))] sz) t) (va_A [(a1, .inr (16, [.ref a2, .ref a3, .ref a4, .ref a5, .ref a6, .ref a7, .ref a8, .ref a9, .ref a10, .ref a11])), (a2, .inr (10, [.ref a12, .ref a13, .ref a14, .ref a15, .ref a16, .int 0, .int 0]))] sz)) 1 6 (va_A [(a1, .inr (16, [.ref a2, .ref a3, .ref a4, .ref a5, .ref a6, .ref a7, .ref a8, .ref a9, .ref a10, .ref a11])), (a2, .inr (10, [.ref a12, .ref a13, .ref a14, .ref a15, .ref a16, .int 0, .int 0]))] sz) := by
  refine vx_ofW (cc := cX11_pass) (maxL := 2) (ret := (some .int)) (by decide +kernel) rfl ?_
  intro p e s m args below meth c s₁ B hml hex hv
  obtain ⟨rfl, hsz, hP, hK, hD0, hG⟩ := hv
  have hx := B.exec
  have hb := B.bytes
  have hr := B.returns
  have hts := atoms_spec (ws := wsX11_pass) B.pre
  have hown : s.vm.findClass RX11 = some m.cls := findClass_of_methodNamed B.named
  have hlocks := B.notSynchronized
  have hin_X11 : ∀ w ∈ wsX110, w ∈ wsX11_pass := by decide +kernel
  subst hsz
  have hD := hD0.self (sz := s.heap.size)
  generalize hAe : va_A [(a1, .inr (16, [.ref a2, .ref a3, .ref a4, .ref a5, .ref a6, .ref a7, .ref a8, .ref a9, .ref a10, .ref a11])), (a2, .inr (10, [.ref a12, .ref a13, .ref a14, .ref a15, .ref a16, .int 0, .int 0]))] s.heap.size = A at hD hG ⊢
  have hA : ∀ q : Nat, s.heap.size ≤ q → A q := fun q h => by rw [← hAe]; exact Or.inr h
  have hS : va_S A s.heap s.heap [] := va_S.rf
  have hl := lv_entry ([.ref a1, .int p1]) (n := 2) (Nat.le_of_ble_eq_true rfl)
  rw [lg_entry_eq]
  generalize (lg_sl ([.ref a1, .int p1]) ++ List.replicate (2 - (lg_sl ([.ref a1, .int p1])).length) Slot.unset).toArray = ls at hl ⊢
  have hl : lv_has ls 2 [(0, .ref a1), (1, .int p1)] := hl
  refine lv_iload_n hx hb dX11_pass_0 rfl (lv_at hl 1 rfl) ?_
  refine lv_iconst (v := 1) hx hb dX11_pass_1 (by decide) ?_
  refine lv_bipush (v := 20) hx hb dX11_pass_2 (by decide) ?_
  have hPc := hP.sub (ws' := []) [] rfl
  have hDc := hD.sub (ws' := []) [] (by decide) rfl
  have hFc := va_free (wc := []) hD hS hA [] rfl
  refine vx_callv (vx_runS (As := [.int p1, .int 1, .int 20]) (rest := []) ⟨hx, hb, hml, hown, hts⟩ (xcX11_needRange_v6 l hst dC dI T s.heap.size p1) (cwS 3 hts gX11_pass_X11_needRange rfl rfl rfl (by decide +kernel) ⟨Nat.le_of_ble_eq_true rfl, Nat.le_of_ble_eq_true rfl⟩) ⟨xBlind, xCall hK hG hS hPc hDc hFc⟩ rfl rfl hl.1 rfl (lv_room (Nat.le_of_ble_eq_true rfl)) dX11_pass_4 ⟨Nat.le_of_ble_eq_true rfl, Nat.le_of_ble_eq_true rfl⟩) hS (fun q _ h => hFc q h) hFc (fun q _ h => hFc q h) (fun E ce q9 u t H locs ht hvm hw hB hz1 hk1 hS hce hcv hcl => ?_) (fun u t H locs ht hvm hw hB hz1 hk1 hS => ?_)
  · rcases hB with ⟨c_1, hE, hP1, hD1⟩
    subst hE
    rw [ht] at hP1
    obtain ⟨hP, hD⟩ := va_join (wr := [(a1, .inr (16, [.ref a2, .ref a3, .ref a4, .ref a5, .ref a6, .ref a7, .ref a8, .ref a9, .ref a10, .ref a11])), (a2, .inr (10, [.ref a12, .ref a13, .ref a14, .ref a15, .ref a16, .int 0, .int 0]))]) (w1 := []) hP hD [] [0, 1] rfl rfl (by decide) (by decide) hk1 hFc hP1 hD1
    have hP : va_P (dC, dI) vwCl [(a1, .inr (16, [.ref a2, .ref a3, .ref a4, .ref a5, .ref a6, .ref a7, .ref a8, .ref a9, .ref a10, .ref a11])), (a2, .inr (10, [.ref a12, .ref a13, .ref a14, .ref a15, .ref a16, .int 0, .int 0]))] H := hP
    have hD : va_D A [(a1, .inr (16, [.ref a2, .ref a3, .ref a4, .ref a5, .ref a6, .ref a7, .ref a8, .ref a9, .ref a10, .ref a11])), (a2, .inr (10, [.ref a12, .ref a13, .ref a14, .ref a15, .ref a16, .int 0, .int 0]))] := hD
    clear hPc hDc hFc hP1 hD1 hk1 hz1 ht hvm
    have hP9 := hP.sub (ws' := []) [] rfl
    have hD9 := hD.sub (ws' := []) [] (by decide) rfl
    exact vx_out (fun x hx => absurd (hex x hx) id) hlocks hce hcv hcl (fun t ht _ => ⟨(), trivial, ⟨c_1, rfl, by rw [ht]; exact hP9, hD9⟩, hS.F ht⟩) hS.2.2 (Nat.le_of_ble_eq_true rfl) (Nat.le_of_ble_eq_true rfl)
  · rcases hB with ⟨c_2, hP1, hD1⟩
    rw [ht] at hP1
    obtain ⟨hP, hD⟩ := va_join (wr := [(a1, .inr (16, [.ref a2, .ref a3, .ref a4, .ref a5, .ref a6, .ref a7, .ref a8, .ref a9, .ref a10, .ref a11])), (a2, .inr (10, [.ref a12, .ref a13, .ref a14, .ref a15, .ref a16, .int 0, .int 0]))]) (w1 := []) hP hD [] [0, 1] rfl rfl (by decide) (by decide) hk1 hFc hP1 hD1
    have hP : va_P (dC, dI) vwCl [(a1, .inr (16, [.ref a2, .ref a3, .ref a4, .ref a5, .ref a6, .ref a7, .ref a8, .ref a9, .ref a10, .ref a11])), (a2, .inr (10, [.ref a12, .ref a13, .ref a14, .ref a15, .ref a16, .int 0, .int 0]))] H := hP
    have hD : va_D A [(a1, .inr (16, [.ref a2, .ref a3, .ref a4, .ref a5, .ref a6, .ref a7, .ref a8, .ref a9, .ref a10, .ref a11])), (a2, .inr (10, [.ref a12, .ref a13, .ref a14, .ref a15, .ref a16, .int 0, .int 0]))] := hD
    clear hPc hDc hFc hP1 hD1 hk1 hz1 ht hvm
    refine lv_aload_n hx hb dX11_pass_7 rfl (lv_at hl 0 rfl) ?_
    refine va_get (D := (dC, dI)) (ci := 16) (v := .ref a2) (C := RX11) (T := TX11) (N := 10) hx hb hts hin_X11 hown hK hP 0 rfl rfl 0 (by decide) (hts (.fieldLink RX11 12 "Nearestward" "ground" "LNearestward$Ground;") (by decide +kernel)) (fun _ h9 => h9) rfl dX11_pass_8 ?_
    refine lv_iload_n hx hb dX11_pass_11 rfl (lv_at hl 1 rfl) ?_
    have hPc := hP.sub (ws' := [(a2, .inr (10, [.ref a12, .ref a13, .ref a14, .ref a15, .ref a16, .int 0, .int 0]))]) [1] rfl
    have hDc := hD.sub (ws' := [(a2, .inr (10, [.ref a12, .ref a13, .ref a14, .ref a15, .ref a16, .int 0, .int 0]))]) [1] (by decide) rfl
    have hFc := va_free (wc := [(a2, .inr (10, [.ref a12, .ref a13, .ref a14, .ref a15, .ref a16, .int 0, .int 0]))]) hD hS hA [1] rfl
    refine va_calli (va_runV (As := [.int p1]) (rest := []) ⟨hx, hb, hml, hown, hts⟩ (xcX5_hasRoomAfter l hst dC dI T a2 a12 a13 a14 a15 a16 H.size p1) (cwV 1 hts gX11_pass_X5_hasRoomAfter rfl rfl rfl (by decide +kernel) ⟨Nat.le_of_ble_eq_true rfl, Nat.le_of_ble_eq_true rfl⟩) ⟨xBlind, va_recv hK hPc (ci := 10) (q0 := 0) rfl rfl, xCall hK hG hS hPc hDc hFc⟩ rfl rfl hl.1 rfl (lv_room (Nat.le_of_ble_eq_true rfl)) dX11_pass_12 ⟨Nat.le_of_ble_eq_true rfl, Nat.le_of_ble_eq_true rfl⟩) hS (fun q _ h => hFc q h) hFc (fun r_9 u t H locs ht hvm hw hB hz1 hk1 hS => ?_)
    subst hw
    rcases hB with ⟨hr_9, hP1, hD1⟩
    rw [ht] at hP1
    subst hr_9
    obtain ⟨hP, hD⟩ := va_join (wr := [(a1, .inr (16, [.ref a2, .ref a3, .ref a4, .ref a5, .ref a6, .ref a7, .ref a8, .ref a9, .ref a10, .ref a11]))]) (w1 := [(a2, .inr (10, [.ref a12, .ref a13, .ref a14, .ref a15, .ref a16, .int 0, .int 0]))]) hP hD [1] [0] rfl rfl (by decide) (by decide) hk1 hFc hP1 hD1
    have hP : va_P (dC, dI) vwCl [(a1, .inr (16, [.ref a2, .ref a3, .ref a4, .ref a5, .ref a6, .ref a7, .ref a8, .ref a9, .ref a10, .ref a11])), (a2, .inr (10, [.ref a12, .ref a13, .ref a14, .ref a15, .ref a16, .int 0, .int 0]))] H := hP
    have hD : va_D A [(a1, .inr (16, [.ref a2, .ref a3, .ref a4, .ref a5, .ref a6, .ref a7, .ref a8, .ref a9, .ref a10, .ref a11])), (a2, .inr (10, [.ref a12, .ref a13, .ref a14, .ref a15, .ref a16, .int 0, .int 0]))] := hD
    clear hPc hDc hFc hP1 hD1 hk1 hz1 ht hvm
    refine lv_if_ne (tgt := 29) hx hb dX11_pass_15 (by decide) (fun c_4 => ?_) (fun c_4 => absurd c_4 (by decide))
    refine lv_aload_n hx hb dX11_pass_29 rfl (lv_at hl 0 rfl) ?_
    refine va_get (D := (dC, dI)) (ci := 16) (v := .ref a2) (C := RX11) (T := TX11) (N := 10) hx hb hts hin_X11 hown hK hP 0 rfl rfl 0 (by decide) (hts (.fieldLink RX11 12 "Nearestward" "ground" "LNearestward$Ground;") (by decide +kernel)) (fun _ h9 => h9) rfl dX11_pass_30 ?_
    refine lv_iload_n hx hb dX11_pass_33 rfl (lv_at hl 1 rfl) ?_
    have hPc := hP.sub (ws' := [(a2, .inr (10, [.ref a12, .ref a13, .ref a14, .ref a15, .ref a16, .int 0, .int 0]))]) [1] rfl
    have hDc := hD.sub (ws' := [(a2, .inr (10, [.ref a12, .ref a13, .ref a14, .ref a15, .ref a16, .int 0, .int 0]))]) [1] (by decide) rfl
    have hFc := va_free (wc := [(a2, .inr (10, [.ref a12, .ref a13, .ref a14, .ref a15, .ref a16, .int 0, .int 0]))]) hD hS hA [1] rfl
    refine va_calli (va_runV (As := [.int p1]) (rest := []) ⟨hx, hb, hml, hown, hts⟩ (xcX5_goOn l hst dC dI T a2 a12 a13 a14 a15 a16 H.size p1) (cwV 1 hts gX11_pass_X5_goOn rfl rfl rfl (by decide +kernel) ⟨Nat.le_of_ble_eq_true rfl, Nat.le_of_ble_eq_true rfl⟩) ⟨xBlind, va_recv hK hPc (ci := 10) (q0 := 0) rfl rfl, xCall hK hG hS hPc hDc hFc⟩ rfl rfl hl.1 rfl (lv_room (Nat.le_of_ble_eq_true rfl)) dX11_pass_34 ⟨Nat.le_of_ble_eq_true rfl, Nat.le_of_ble_eq_true rfl⟩) hS (fun q _ h => hFc q h) hFc (fun r_9 u t H locs ht hvm hw hB hz1 hk1 hS => ?_)
    subst hw
    rcases hB with ⟨hr_9, hP1, hD1⟩
    rw [ht] at hP1
    subst hr_9
    obtain ⟨hP, hD⟩ := va_join (wr := [(a1, .inr (16, [.ref a2, .ref a3, .ref a4, .ref a5, .ref a6, .ref a7, .ref a8, .ref a9, .ref a10, .ref a11]))]) (w1 := [(a2, .inr (10, [.ref a12, .ref a13, .ref a14, .ref a15, .ref a16, .int 0, .int 0]))]) hP hD [1] [0] rfl rfl (by decide) (by decide) hk1 hFc hP1 hD1
    have hP : va_P (dC, dI) vwCl [(a1, .inr (16, [.ref a2, .ref a3, .ref a4, .ref a5, .ref a6, .ref a7, .ref a8, .ref a9, .ref a10, .ref a11])), (a2, .inr (10, [.ref a12, .ref a13, .ref a14, .ref a15, .ref a16, .int 0, .int 0]))] H := hP
    have hD : va_D A [(a1, .inr (16, [.ref a2, .ref a3, .ref a4, .ref a5, .ref a6, .ref a7, .ref a8, .ref a9, .ref a10, .ref a11])), (a2, .inr (10, [.ref a12, .ref a13, .ref a14, .ref a15, .ref a16, .int 0, .int 0]))] := hD
    clear hPc hDc hFc hP1 hD1 hk1 hz1 ht hvm
    refine vx_ret ?_
    have hP9 := hP.sub (ws' := []) [] rfl
    have hD9 := hD.sub (ws' := []) [] (by decide) rfl
    exact W.iret (v := 0) hx hb hr (fun t ht hW => ⟨⟨_, _, rfl, rfl, ⟨c_2, rfl, by rw [ht]; exact hP9, hD9⟩⟩, hS.F ht⟩) hS.2.2 dX11_pass_37
set_option maxHeartbeats 4000000 in
set_option maxRecDepth 100000 in
theorem xcL_pass (l : Launch) (hst : l.stackTraces = false) (dC : Nat → ClassId) (dI : Nat → Nat → Nat) (T : Nat → ClassId) (a1 : Nat) (a2 : Nat) (a3 : Nat) (a4 : Nat) (a5 : Nat) (a6 : Nat) (a7 : Nat) (a8 : Nat) (a9 : Nat) (a10 : Nat) (a11 : Nat) (a12 : Nat) (a13 : Nat) (a14 : Nat) (a15 : Nat) (a16 : Nat) (a17 : Nat) (sz : Nat) (p1 : Int32) : Met l yL_pass wsL_pass ({ frames := 8, cells := 1, slots := 6, locals := 125 } : Room) (va_Pc [.ref a1, .int p1, .ref a2] (fun U => xB dC dI T [(a1, .inr (16, [.ref a3, .ref a4, .ref a5, .ref a6, .ref a7, .ref a8, .ref a9, .ref a10, .ref a11, .ref a12])), (a3, .inr (10, [.ref a13, .ref a14, .ref a15, .ref a16, .ref a17, .int 0, .int 0])), (a2, .inl (T 5, 1, .inr (.inl (fun _ => 0))))] sz U)) (va_Qi (fun (r u : Int32) => r = u) (fun (u : Int32) (t : State) => (((p1.toInt < 1) ∨ ((¬ (p1.toInt < 1)) ∧ (¬ (p1.toInt ≤ 20)))) ∧ 1 = u ∧ xE dC dI [(a2, .inl (T 5, 1, .inr (.inl (fun _ => 0))))] (va_A [(a1, .inr (16, [.ref a3, .ref a4, .ref a5, .ref a6, .ref a7, .ref a8, .ref a9, .ref a10, .ref a11, .ref a12])), (a3, .inr (10, [.ref a13, .ref a14, .ref a15, .ref a16, .ref a17, .int 0, .int 0])), (a2, .inl (T 5, 1, .inr (.inl (fun _ => 0))))] sz) t) ∨ (((¬ (p1.toInt < 1)) ∧ (p1.toInt ≤ 20)) ∧ 0 = u ∧ xE dC dI [(a2, .inl (T 5, 1, .inr (.inl (vp_updL (fun _ => 0) (0 : Int32).toNatClampNeg 0))))] (va_A [(a1, .inr (16, [.ref a3, .ref a4, .ref a5, .ref a6, .ref a7, .ref a8, .ref a9, .ref a10, .ref a11, .ref a12])), (a3, .inr (10, [.ref a13, .ref a14, .ref a15, .ref a16, .ref a17, .int 0, .int 0])), (a2, .inl (T 5, 1, .inr (.inl (fun _ => 0))))] sz) t)) (va_A [(a1, .inr (16, [.ref a3, .ref a4, .ref a5, .ref a6, .ref a7, .ref a8, .ref a9, .ref a10, .ref a11, .ref a12])), (a3, .inr (10, [.ref a13, .ref a14, .ref a15, .ref a16, .ref a17, .int 0, .int 0])), (a2, .inl (T 5, 1, .inr (.inl (fun _ => 0))))] sz)) 1 6 (va_A [(a1, .inr (16, [.ref a3, .ref a4, .ref a5, .ref a6, .ref a7, .ref a8, .ref a9, .ref a10, .ref a11, .ref a12])), (a3, .inr (10, [.ref a13, .ref a14, .ref a15, .ref a16, .ref a17, .int 0, .int 0])), (a2, .inl (T 5, 1, .inr (.inl (fun _ => 0))))] sz) := by
  refine va_MetW (cc := cL_pass) (maxL := 4) (ret := (some .int)) (hh := [(0, 9, 12, 13), (0, 9, 15, 15)]) (by decide +kernel) rfl ?_
  intro p e s m args below meth c s₁ B hml hv
  obtain ⟨rfl, hsz, hP, hK, hD0, hG⟩ := hv
  have hx := B.exec
  have hb := B.bytes
  have hr := B.returns
  have hts := atoms_spec (ws := wsL_pass) B.pre
  have hown : s.vm.findClass RL = some m.cls := findClass_of_methodNamed B.named
  have hlocks := B.notSynchronized
  have htab := vx_table (x := yL_pass) B (hts (.codeWith yL_pass cL_pass 4 (some .int) [(0, 9, 12, 13), (0, 9, 15, 15)]) (by decide +kernel))
  subst hsz
  have hD := hD0.self (sz := s.heap.size)
  generalize hAe : va_A [(a1, .inr (16, [.ref a3, .ref a4, .ref a5, .ref a6, .ref a7, .ref a8, .ref a9, .ref a10, .ref a11, .ref a12])), (a3, .inr (10, [.ref a13, .ref a14, .ref a15, .ref a16, .ref a17, .int 0, .int 0])), (a2, .inl (T 5, 1, .inr (.inl (fun _ => 0))))] s.heap.size = A at hD hG ⊢
  have hA : ∀ q : Nat, s.heap.size ≤ q → A q := fun q h => by rw [← hAe]; exact Or.inr h
  have hS : va_S A s.heap s.heap [] := va_S.rf
  have hl := lv_entry ([.ref a1, .int p1, .ref a2]) (n := 4) (Nat.le_of_ble_eq_true rfl)
  rw [lg_entry_eq]
  generalize (lg_sl ([.ref a1, .int p1, .ref a2]) ++ List.replicate (4 - (lg_sl ([.ref a1, .int p1, .ref a2])).length) Slot.unset).toArray = ls at hl ⊢
  have hl : lv_has ls 4 [(0, .ref a1), (1, .int p1), (2, .ref a2)] := hl
  refine lv_aload_n hx hb dL_pass_0 rfl (lv_at hl 2 rfl) ?_
  refine lv_iconst (v := 0) hx hb dL_pass_1 (by decide) ?_
  refine lv_aload_n hx hb dL_pass_2 rfl (lv_at hl 0 rfl) ?_
  refine lv_iload_n hx hb dL_pass_3 rfl (lv_at hl 1 rfl) ?_
  have hPc := hP.sub (ws' := [(a1, .inr (16, [.ref a3, .ref a4, .ref a5, .ref a6, .ref a7, .ref a8, .ref a9, .ref a10, .ref a11, .ref a12])), (a3, .inr (10, [.ref a13, .ref a14, .ref a15, .ref a16, .ref a17, .int 0, .int 0]))]) [0, 1] rfl
  have hDc := hD.sub (ws' := [(a1, .inr (16, [.ref a3, .ref a4, .ref a5, .ref a6, .ref a7, .ref a8, .ref a9, .ref a10, .ref a11, .ref a12])), (a3, .inr (10, [.ref a13, .ref a14, .ref a15, .ref a16, .ref a17, .int 0, .int 0]))]) [0, 1] (by decide) rfl
  have hFc := va_free (wc := [(a1, .inr (16, [.ref a3, .ref a4, .ref a5, .ref a6, .ref a7, .ref a8, .ref a9, .ref a10, .ref a11, .ref a12])), (a3, .inr (10, [.ref a13, .ref a14, .ref a15, .ref a16, .ref a17, .int 0, .int 0]))]) hD hS hA [0, 1] rfl
  refine vx_calli (vx_runV (As := [.int p1]) (rest := [.int 0, .ref a2]) ⟨hx, hb, hml, hown, hts⟩ (xcX11_pass l hst dC dI T a1 a3 a4 a5 a6 a7 a8 a9 a10 a11 a12 a13 a14 a15 a16 a17 s.heap.size p1) (cwV 1 hts gL_pass_X11_pass rfl rfl rfl (by decide +kernel) ⟨Nat.le_of_ble_eq_true rfl, Nat.le_of_ble_eq_true rfl⟩) ⟨xBlind, va_recv hK hPc (ci := 16) (q0 := 0) rfl rfl, xCall hK hG hS hPc hDc hFc⟩ rfl rfl hl.1 rfl (lv_room (Nat.le_of_ble_eq_true rfl)) dL_pass_4 ⟨Nat.le_of_ble_eq_true rfl, Nat.le_of_ble_eq_true rfl⟩) hS (fun q _ h => hFc q h) hFc (fun q _ h => hFc q h) (fun E ce q9 u t H locs ht hvm hw hB hz1 hk1 hS hce hcv hcl => ?_) (fun r_9 u t H locs ht hvm hw hB hz1 hk1 hS => ?_)
  · rcases hB with ⟨c_1, hE, hP1, hD1⟩
    subst hE
    rw [ht] at hP1
    obtain ⟨hP, hD⟩ := va_join (wr := [(a2, .inl (T 5, 1, .inr (.inl (fun _ => 0))))]) (w1 := []) hP hD [0, 1] [2] rfl rfl (by decide) (by decide) hk1 hFc hP1 hD1
    have hP : va_P (dC, dI) vwCl [(a2, .inl (T 5, 1, .inr (.inl (fun _ => 0))))] H := hP
    have hD : va_D A [(a2, .inl (T 5, 1, .inr (.inl (fun _ => 0))))] := hD
    clear hPc hDc hFc hP1 hD1 hk1 hz1 ht hvm
    refine vx_catch (E := "java/lang/IllegalArgumentException") (name := "java/lang/IllegalArgumentException") hown [] ⟨0, 9, 12, 13⟩ [⟨0, 9, 15, 15⟩] (htab.trans rfl) (fun _ h => absurd h List.not_mem_nil) (by decide) (by decide) (hts (.classLink RL 13 "java/lang/IllegalArgumentException") (by decide +kernel)) (xBad_use hG.2.2.2.1 _ (by decide +kernel)) hce hcv hcl ?_
    refine lv_astore_n (lv' := [(3, .ref q9), (0, .ref a1), (1, .int p1), (2, .ref a2)]) hx hb dL_pass_12 rfl hl (by decide) rfl (fun ls hl => ?_)
    refine lv_iconst (v := 1) hx hb dL_pass_13 (by decide) ?_
    have hP9 := hP.sub (ws' := [(a2, .inl (T 5, 1, .inr (.inl (fun _ => 0))))]) [0] rfl
    have hD9 := hD.sub (ws' := [(a2, .inl (T 5, 1, .inr (.inl (fun _ => 0))))]) [0] (by decide) rfl
    exact W.iret (v := 1) hx hb hr (fun t ht hW => ⟨⟨_, _, rfl, rfl, (Or.inl ⟨c_1, rfl, by rw [ht]; exact hP9, hD9⟩)⟩, hS.F ht⟩) hS.2.2 dL_pass_14
  · subst hw
    rcases hB with ⟨c_2, hr_9, hP1, hD1⟩
    rw [ht] at hP1
    subst hr_9
    obtain ⟨hP, hD⟩ := va_join (wr := [(a2, .inl (T 5, 1, .inr (.inl (fun _ => 0))))]) (w1 := []) hP hD [0, 1] [2] rfl rfl (by decide) (by decide) hk1 hFc hP1 hD1
    have hP : va_P (dC, dI) vwCl [(a2, .inl (T 5, 1, .inr (.inl (fun _ => 0))))] H := hP
    have hD : va_D A [(a2, .inl (T 5, 1, .inr (.inl (fun _ => 0))))] := hD
    clear hPc hDc hFc hP1 hD1 hk1 hz1 ht hvm
    refine lv_i2l (v := 0) hx hb dL_pass_7 (by decide) ?_
    refine va_last hx hb hK hP hD hS 0 5 rfl rfl (show vp_in 0 1 by unfold vp_in; decide) dL_pass_8 (fun H locs hP hD hS => ?_)
    have hP : va_P (dC, dI) vwCl [(a2, .inl (T 5, 1, .inr (.inl (vp_updL (fun _ => 0) (0 : Int32).toNatClampNeg 0))))] H := hP
    have hD : va_D A [(a2, .inl (T 5, 1, .inr (.inl (vp_updL (fun _ => 0) (0 : Int32).toNatClampNeg 0))))] := hD
    refine lv_goto (tgt := 18) hx hb dL_pass_9 (by decide) ?_
    refine lv_iconst (v := 0) hx hb dL_pass_18 (by decide) ?_
    have hP9 := hP.sub (ws' := [(a2, .inl (T 5, 1, .inr (.inl (vp_updL (fun _ => 0) (0 : Int32).toNatClampNeg 0))))]) [0] rfl
    have hD9 := hD.sub (ws' := [(a2, .inl (T 5, 1, .inr (.inl (vp_updL (fun _ => 0) (0 : Int32).toNatClampNeg 0))))]) [0] (by decide) rfl
    exact W.iret (v := 0) hx hb hr (fun t ht hW => ⟨⟨_, _, rfl, rfl, (Or.inr (⟨c_2, rfl, by rw [ht]; exact hP9, hD9⟩))⟩, hS.F ht⟩) hS.2.2 dL_pass_19
set_option maxHeartbeats 4000000 in
set_option maxRecDepth 100000 in
theorem xcX11_remove (l : Launch) (hst : l.stackTraces = false) (dC : Nat → ClassId) (dI : Nat → Nat → Nat) (T : Nat → ClassId) (a1 : Nat) (a2 : Nat) (a3 : Nat) (a4 : Nat) (a5 : Nat) (a6 : Nat) (a7 : Nat) (a8 : Nat) (a9 : Nat) (a10 : Nat) (a11 : Nat) (a12 : Nat) (a13 : Nat) (a14 : Nat) (a15 : Nat) (a16 : Nat) (sz : Nat) (p1 : Int32) : vx_Met l yX11_remove wsX11_remove ({ frames := 7, cells := 1, slots := 6, locals := 103 } : Room) (va_Pc [.ref a1, .int p1] (fun U => xB dC dI T [(a1, .inr (16, [.ref a2, .ref a3, .ref a4, .ref a5, .ref a6, .ref a7, .ref a8, .ref a9, .ref a10, .ref a11])), (a2, .inr (10, [.ref a12, .ref a13, .ref a14, .ref a15, .ref a16, .int 0, .int 0]))] sz U)) (va_Qi (fun (r u : Int32) => r = u) (fun (u : Int32) (t : State) => False) (va_A [(a1, .inr (16, [.ref a2, .ref a3, .ref a4, .ref a5, .ref a6, .ref a7, .ref a8, .ref a9, .ref a10, .ref a11])), (a2, .inr (10, [.ref a12, .ref a13, .ref a14, .ref a15, .ref a16, .int 0, .int 0]))] sz)) (vx_X (fun _ : Unit => True) (fun (E : String) (_ : Unit) (t : State) => E = "java/lang/IndexOutOfBoundsException" ∧ xE dC dI [] (va_A [(a1, .inr (16, [.ref a2, .ref a3, .ref a4, .ref a5, .ref a6, .ref a7, .ref a8, .ref a9, .ref a10, .ref a11])), (a2, .inr (10, [.ref a12, .ref a13, .ref a14, .ref a15, .ref a16, .int 0, .int 0]))] sz) t) (va_A [(a1, .inr (16, [.ref a2, .ref a3, .ref a4, .ref a5, .ref a6, .ref a7, .ref a8, .ref a9, .ref a10, .ref a11])), (a2, .inr (10, [.ref a12, .ref a13, .ref a14, .ref a15, .ref a16, .int 0, .int 0]))] sz)) 1 6 (va_A [(a1, .inr (16, [.ref a2, .ref a3, .ref a4, .ref a5, .ref a6, .ref a7, .ref a8, .ref a9, .ref a10, .ref a11])), (a2, .inr (10, [.ref a12, .ref a13, .ref a14, .ref a15, .ref a16, .int 0, .int 0]))] sz) := by
  refine vx_ofW (cc := cX11_remove) (maxL := 2) (ret := (some .int)) (by decide +kernel) rfl ?_
  intro p e s m args below meth c s₁ B hml hex hv
  obtain ⟨rfl, hsz, hP, hK, hD0, hG⟩ := hv
  have hx := B.exec
  have hb := B.bytes
  have hr := B.returns
  have hts := atoms_spec (ws := wsX11_remove) B.pre
  have hown : s.vm.findClass RX11 = some m.cls := findClass_of_methodNamed B.named
  have hlocks := B.notSynchronized
  subst hsz
  have hD := hD0.self (sz := s.heap.size)
  generalize hAe : va_A [(a1, .inr (16, [.ref a2, .ref a3, .ref a4, .ref a5, .ref a6, .ref a7, .ref a8, .ref a9, .ref a10, .ref a11])), (a2, .inr (10, [.ref a12, .ref a13, .ref a14, .ref a15, .ref a16, .int 0, .int 0]))] s.heap.size = A at hD hG ⊢
  have hA : ∀ q : Nat, s.heap.size ≤ q → A q := fun q h => by rw [← hAe]; exact Or.inr h
  have hS : va_S A s.heap s.heap [] := va_S.rf
  have hl := lv_entry ([.ref a1, .int p1]) (n := 2) (Nat.le_of_ble_eq_true rfl)
  rw [lg_entry_eq]
  generalize (lg_sl ([.ref a1, .int p1]) ++ List.replicate (2 - (lg_sl ([.ref a1, .int p1])).length) Slot.unset).toArray = ls at hl ⊢
  have hl : lv_has ls 2 [(0, .ref a1), (1, .int p1)] := hl
  refine lv_aload_n hx hb dX11_remove_0 rfl (lv_at hl 0 rfl) ?_
  refine lv_iload_n hx hb dX11_remove_1 rfl (lv_at hl 1 rfl) ?_
  have hPc := hP.sub (ws' := [(a1, .inr (16, [.ref a2, .ref a3, .ref a4, .ref a5, .ref a6, .ref a7, .ref a8, .ref a9, .ref a10, .ref a11])), (a2, .inr (10, [.ref a12, .ref a13, .ref a14, .ref a15, .ref a16, .int 0, .int 0]))]) [0, 1] rfl
  have hDc := hD.sub (ws' := [(a1, .inr (16, [.ref a2, .ref a3, .ref a4, .ref a5, .ref a6, .ref a7, .ref a8, .ref a9, .ref a10, .ref a11])), (a2, .inr (10, [.ref a12, .ref a13, .ref a14, .ref a15, .ref a16, .int 0, .int 0]))]) [0, 1] (by decide) rfl
  have hFc := va_free (wc := [(a1, .inr (16, [.ref a2, .ref a3, .ref a4, .ref a5, .ref a6, .ref a7, .ref a8, .ref a9, .ref a10, .ref a11])), (a2, .inr (10, [.ref a12, .ref a13, .ref a14, .ref a15, .ref a16, .int 0, .int 0]))]) hD hS hA [0, 1] rfl
  refine vx_callv (vx_runV (As := [.int p1]) (rest := []) ⟨hx, hb, hml, hown, hts⟩ (xcX11_needPoint l hst dC dI T a1 a2 a3 a4 a5 a6 a7 a8 a9 a10 a11 a12 a13 a14 a15 a16 s.heap.size p1) (cwV 1 hts gX11_remove_X11_needPoint rfl rfl rfl (by decide +kernel) ⟨Nat.le_of_ble_eq_true rfl, Nat.le_of_ble_eq_true rfl⟩) ⟨xBlind, va_recv hK hPc (ci := 16) (q0 := 0) rfl rfl, xCall hK hG hS hPc hDc hFc⟩ rfl rfl hl.1 rfl (lv_room (Nat.le_of_ble_eq_true rfl)) dX11_remove_2 ⟨Nat.le_of_ble_eq_true rfl, Nat.le_of_ble_eq_true rfl⟩) hS (fun q _ h => hFc q h) hFc (fun q _ h => hFc q h) (fun E ce q9 u t H locs ht hvm hw hB hz1 hk1 hS hce hcv hcl => ?_) (fun u t H locs ht hvm hw hB hz1 hk1 hS => ?_)
  · rcases hB with ⟨hE, hP1, hD1⟩
    subst hE
    rw [ht] at hP1
    obtain ⟨hP, hD⟩ := va_join (wr := []) (w1 := [(a1, .inr (16, [.ref a2, .ref a3, .ref a4, .ref a5, .ref a6, .ref a7, .ref a8, .ref a9, .ref a10, .ref a11])), (a2, .inr (10, [.ref a12, .ref a13, .ref a14, .ref a15, .ref a16, .int 0, .int 0]))]) hP hD [0, 1] [] rfl rfl (by decide) (by decide) hk1 hFc hP1 hD1
    have hP : va_P (dC, dI) vwCl [(a1, .inr (16, [.ref a2, .ref a3, .ref a4, .ref a5, .ref a6, .ref a7, .ref a8, .ref a9, .ref a10, .ref a11])), (a2, .inr (10, [.ref a12, .ref a13, .ref a14, .ref a15, .ref a16, .int 0, .int 0]))] H := hP
    have hD : va_D A [(a1, .inr (16, [.ref a2, .ref a3, .ref a4, .ref a5, .ref a6, .ref a7, .ref a8, .ref a9, .ref a10, .ref a11])), (a2, .inr (10, [.ref a12, .ref a13, .ref a14, .ref a15, .ref a16, .int 0, .int 0]))] := hD
    clear hPc hDc hFc hP1 hD1 hk1 hz1 ht hvm
    have hP9 := hP.sub (ws' := []) [] rfl
    have hD9 := hD.sub (ws' := []) [] (by decide) rfl
    exact vx_out (fun x hx => absurd (hex x hx) id) hlocks hce hcv hcl (fun t ht _ => ⟨(), trivial, ⟨rfl, by rw [ht]; exact hP9, hD9⟩, hS.F ht⟩) hS.2.2 (Nat.le_of_ble_eq_true rfl) (Nat.le_of_ble_eq_true rfl)
  · exact absurd hB id
set_option maxHeartbeats 4000000 in
set_option maxRecDepth 100000 in
theorem xcL_remove (l : Launch) (hst : l.stackTraces = false) (dC : Nat → ClassId) (dI : Nat → Nat → Nat) (T : Nat → ClassId) (a1 : Nat) (a2 : Nat) (a3 : Nat) (a4 : Nat) (a5 : Nat) (a6 : Nat) (a7 : Nat) (a8 : Nat) (a9 : Nat) (a10 : Nat) (a11 : Nat) (a12 : Nat) (a13 : Nat) (a14 : Nat) (a15 : Nat) (a16 : Nat) (a17 : Nat) (sz : Nat) (p1 : Int32) : Met l yL_remove wsL_remove ({ frames := 8, cells := 1, slots := 6, locals := 124 } : Room) (va_Pc [.ref a1, .int p1, .ref a2] (fun U => xB dC dI T [(a1, .inr (16, [.ref a3, .ref a4, .ref a5, .ref a6, .ref a7, .ref a8, .ref a9, .ref a10, .ref a11, .ref a12])), (a3, .inr (10, [.ref a13, .ref a14, .ref a15, .ref a16, .ref a17, .int 0, .int 0]))] sz U)) (va_Qi (fun (r u : Int32) => r = u) (fun (u : Int32) (t : State) => 1 = u ∧ xE dC dI [] (va_A [(a1, .inr (16, [.ref a3, .ref a4, .ref a5, .ref a6, .ref a7, .ref a8, .ref a9, .ref a10, .ref a11, .ref a12])), (a3, .inr (10, [.ref a13, .ref a14, .ref a15, .ref a16, .ref a17, .int 0, .int 0]))] sz) t) (va_A [(a1, .inr (16, [.ref a3, .ref a4, .ref a5, .ref a6, .ref a7, .ref a8, .ref a9, .ref a10, .ref a11, .ref a12])), (a3, .inr (10, [.ref a13, .ref a14, .ref a15, .ref a16, .ref a17, .int 0, .int 0]))] sz)) 1 6 (va_A [(a1, .inr (16, [.ref a3, .ref a4, .ref a5, .ref a6, .ref a7, .ref a8, .ref a9, .ref a10, .ref a11, .ref a12])), (a3, .inr (10, [.ref a13, .ref a14, .ref a15, .ref a16, .ref a17, .int 0, .int 0]))] sz) := by
  refine va_MetW (cc := cL_remove) (maxL := 4) (ret := (some .int)) (hh := [(0, 9, 12, 23)]) (by decide +kernel) rfl ?_
  intro p e s m args below meth c s₁ B hml hv
  obtain ⟨rfl, hsz, hP, hK, hD0, hG⟩ := hv
  have hx := B.exec
  have hb := B.bytes
  have hr := B.returns
  have hts := atoms_spec (ws := wsL_remove) B.pre
  have hown : s.vm.findClass RL = some m.cls := findClass_of_methodNamed B.named
  have hlocks := B.notSynchronized
  have htab := vx_table (x := yL_remove) B (hts (.codeWith yL_remove cL_remove 4 (some .int) [(0, 9, 12, 23)]) (by decide +kernel))
  subst hsz
  have hD := hD0.self (sz := s.heap.size)
  generalize hAe : va_A [(a1, .inr (16, [.ref a3, .ref a4, .ref a5, .ref a6, .ref a7, .ref a8, .ref a9, .ref a10, .ref a11, .ref a12])), (a3, .inr (10, [.ref a13, .ref a14, .ref a15, .ref a16, .ref a17, .int 0, .int 0]))] s.heap.size = A at hD hG ⊢
  have hA : ∀ q : Nat, s.heap.size ≤ q → A q := fun q h => by rw [← hAe]; exact Or.inr h
  have hS : va_S A s.heap s.heap [] := va_S.rf
  have hl := lv_entry ([.ref a1, .int p1, .ref a2]) (n := 4) (Nat.le_of_ble_eq_true rfl)
  rw [lg_entry_eq]
  generalize (lg_sl ([.ref a1, .int p1, .ref a2]) ++ List.replicate (4 - (lg_sl ([.ref a1, .int p1, .ref a2])).length) Slot.unset).toArray = ls at hl ⊢
  have hl : lv_has ls 4 [(0, .ref a1), (1, .int p1), (2, .ref a2)] := hl
  refine lv_aload_n hx hb dL_remove_0 rfl (lv_at hl 2 rfl) ?_
  refine lv_iconst (v := 0) hx hb dL_remove_1 (by decide) ?_
  refine lv_aload_n hx hb dL_remove_2 rfl (lv_at hl 0 rfl) ?_
  refine lv_iload_n hx hb dL_remove_3 rfl (lv_at hl 1 rfl) ?_
  have hPc := hP.sub (ws' := [(a1, .inr (16, [.ref a3, .ref a4, .ref a5, .ref a6, .ref a7, .ref a8, .ref a9, .ref a10, .ref a11, .ref a12])), (a3, .inr (10, [.ref a13, .ref a14, .ref a15, .ref a16, .ref a17, .int 0, .int 0]))]) [0, 1] rfl
  have hDc := hD.sub (ws' := [(a1, .inr (16, [.ref a3, .ref a4, .ref a5, .ref a6, .ref a7, .ref a8, .ref a9, .ref a10, .ref a11, .ref a12])), (a3, .inr (10, [.ref a13, .ref a14, .ref a15, .ref a16, .ref a17, .int 0, .int 0]))]) [0, 1] (by decide) rfl
  have hFc := va_free (wc := [(a1, .inr (16, [.ref a3, .ref a4, .ref a5, .ref a6, .ref a7, .ref a8, .ref a9, .ref a10, .ref a11, .ref a12])), (a3, .inr (10, [.ref a13, .ref a14, .ref a15, .ref a16, .ref a17, .int 0, .int 0]))]) hD hS hA [0, 1] rfl
  refine vx_calli (vx_runV (As := [.int p1]) (rest := [.int 0, .ref a2]) ⟨hx, hb, hml, hown, hts⟩ (xcX11_remove l hst dC dI T a1 a3 a4 a5 a6 a7 a8 a9 a10 a11 a12 a13 a14 a15 a16 a17 s.heap.size p1) (cwV 1 hts gL_remove_X11_remove rfl rfl rfl (by decide +kernel) ⟨Nat.le_of_ble_eq_true rfl, Nat.le_of_ble_eq_true rfl⟩) ⟨xBlind, va_recv hK hPc (ci := 16) (q0 := 0) rfl rfl, xCall hK hG hS hPc hDc hFc⟩ rfl rfl hl.1 rfl (lv_room (Nat.le_of_ble_eq_true rfl)) dL_remove_4 ⟨Nat.le_of_ble_eq_true rfl, Nat.le_of_ble_eq_true rfl⟩) hS (fun q _ h => hFc q h) hFc (fun q _ h => hFc q h) (fun E ce q9 u t H locs ht hvm hw hB hz1 hk1 hS hce hcv hcl => ?_) (fun r_9 u t H locs ht hvm hw hB hz1 hk1 hS => ?_)
  · rcases hB with ⟨hE, hP1, hD1⟩
    subst hE
    rw [ht] at hP1
    obtain ⟨hP, hD⟩ := va_join (wr := []) (w1 := []) hP hD [0, 1] [] rfl rfl (by decide) (by decide) hk1 hFc hP1 hD1
    have hP : va_P (dC, dI) vwCl [] H := hP
    have hD : va_D A [] := hD
    clear hPc hDc hFc hP1 hD1 hk1 hz1 ht hvm
    refine vx_catch (E := "java/lang/IndexOutOfBoundsException") (name := "java/lang/IndexOutOfBoundsException") hown [] ⟨0, 9, 12, 23⟩ [] (htab.trans rfl) (fun _ h => absurd h List.not_mem_nil) (by decide) (by decide) (hts (.classLink RL 23 "java/lang/IndexOutOfBoundsException") (by decide +kernel)) (xBad_use hG.2.2.2.1 _ (by decide +kernel)) hce hcv hcl ?_
    refine lv_astore_n (lv' := [(3, .ref q9), (0, .ref a1), (1, .int p1), (2, .ref a2)]) hx hb dL_remove_12 rfl hl (by decide) rfl (fun ls hl => ?_)
    refine lv_iconst (v := 1) hx hb dL_remove_13 (by decide) ?_
    have hP9 := hP.sub (ws' := []) [] rfl
    have hD9 := hD.sub (ws' := []) [] (by decide) rfl
    exact W.iret (v := 1) hx hb hr (fun t ht hW => ⟨⟨_, _, rfl, rfl, ⟨rfl, by rw [ht]; exact hP9, hD9⟩⟩, hS.F ht⟩) hS.2.2 dL_remove_14
  · exact absurd hB id
set_option maxHeartbeats 4000000 in
set_option maxRecDepth 100000 in
theorem xcX11_sees (l : Launch) (hst : l.stackTraces = false) (dC : Nat → ClassId) (dI : Nat → Nat → Nat) (T : Nat → ClassId) (a1 : Nat) (a2 : Nat) (a3 : Nat) (a4 : Nat) (a5 : Nat) (a6 : Nat) (a7 : Nat) (a8 : Nat) (a9 : Nat) (a10 : Nat) (a11 : Nat) (a12 : Nat) (a13 : Nat) (a14 : Nat) (a15 : Nat) (a16 : Nat) (sz : Nat) (p1 : Int32) (p2 : Int32) (p3 : Int32) : vx_Met l yX11_sees wsX11_sees ({ frames := 7, cells := 1, slots := 6, locals := 103 } : Room) (va_Pc [.ref a1, .int p1, .int p2, .int p3] (fun U => xB dC dI T [(a1, .inr (16, [.ref a2, .ref a3, .ref a4, .ref a5, .ref a6, .ref a7, .ref a8, .ref a9, .ref a10, .ref a11])), (a2, .inr (10, [.ref a12, .ref a13, .ref a14, .ref a15, .ref a16, .int 0, .int 0]))] sz U)) (va_Qi (fun (r u : Int32) => r = u) (fun (u : Int32) (t : State) => False) (va_A [(a1, .inr (16, [.ref a2, .ref a3, .ref a4, .ref a5, .ref a6, .ref a7, .ref a8, .ref a9, .ref a10, .ref a11])), (a2, .inr (10, [.ref a12, .ref a13, .ref a14, .ref a15, .ref a16, .int 0, .int 0]))] sz)) (vx_X (fun _ : Unit => True) (fun (E : String) (_ : Unit) (t : State) => E = "java/lang/IndexOutOfBoundsException" ∧ xE dC dI [] (va_A [(a1, .inr (16, [.ref a2, .ref a3, .ref a4, .ref a5, .ref a6, .ref a7, .ref a8, .ref a9, .ref a10, .ref a11])), (a2, .inr (10, [.ref a12, .ref a13, .ref a14, .ref a15, .ref a16, .int 0, .int 0]))] sz) t) (va_A [(a1, .inr (16, [.ref a2, .ref a3, .ref a4, .ref a5, .ref a6, .ref a7, .ref a8, .ref a9, .ref a10, .ref a11])), (a2, .inr (10, [.ref a12, .ref a13, .ref a14, .ref a15, .ref a16, .int 0, .int 0]))] sz)) 1 6 (va_A [(a1, .inr (16, [.ref a2, .ref a3, .ref a4, .ref a5, .ref a6, .ref a7, .ref a8, .ref a9, .ref a10, .ref a11])), (a2, .inr (10, [.ref a12, .ref a13, .ref a14, .ref a15, .ref a16, .int 0, .int 0]))] sz) := by
  refine vx_ofW (cc := cX11_sees) (maxL := 4) (ret := (some .boolean)) (by decide +kernel) rfl ?_
  intro p e s m args below meth c s₁ B hml hex hv
  obtain ⟨rfl, hsz, hP, hK, hD0, hG⟩ := hv
  have hx := B.exec
  have hb := B.bytes
  have hr := B.returns
  have hts := atoms_spec (ws := wsX11_sees) B.pre
  have hown : s.vm.findClass RX11 = some m.cls := findClass_of_methodNamed B.named
  have hlocks := B.notSynchronized
  subst hsz
  have hD := hD0.self (sz := s.heap.size)
  generalize hAe : va_A [(a1, .inr (16, [.ref a2, .ref a3, .ref a4, .ref a5, .ref a6, .ref a7, .ref a8, .ref a9, .ref a10, .ref a11])), (a2, .inr (10, [.ref a12, .ref a13, .ref a14, .ref a15, .ref a16, .int 0, .int 0]))] s.heap.size = A at hD hG ⊢
  have hA : ∀ q : Nat, s.heap.size ≤ q → A q := fun q h => by rw [← hAe]; exact Or.inr h
  have hS : va_S A s.heap s.heap [] := va_S.rf
  have hl := lv_entry ([.ref a1, .int p1, .int p2, .int p3]) (n := 4) (Nat.le_of_ble_eq_true rfl)
  rw [lg_entry_eq]
  generalize (lg_sl ([.ref a1, .int p1, .int p2, .int p3]) ++ List.replicate (4 - (lg_sl ([.ref a1, .int p1, .int p2, .int p3])).length) Slot.unset).toArray = ls at hl ⊢
  have hl : lv_has ls 4 [(0, .ref a1), (1, .int p1), (2, .int p2), (3, .int p3)] := hl
  refine lv_aload_n hx hb dX11_sees_0 rfl (lv_at hl 0 rfl) ?_
  refine lv_iload_n hx hb dX11_sees_1 rfl (lv_at hl 3 rfl) ?_
  have hPc := hP.sub (ws' := [(a1, .inr (16, [.ref a2, .ref a3, .ref a4, .ref a5, .ref a6, .ref a7, .ref a8, .ref a9, .ref a10, .ref a11])), (a2, .inr (10, [.ref a12, .ref a13, .ref a14, .ref a15, .ref a16, .int 0, .int 0]))]) [0, 1] rfl
  have hDc := hD.sub (ws' := [(a1, .inr (16, [.ref a2, .ref a3, .ref a4, .ref a5, .ref a6, .ref a7, .ref a8, .ref a9, .ref a10, .ref a11])), (a2, .inr (10, [.ref a12, .ref a13, .ref a14, .ref a15, .ref a16, .int 0, .int 0]))]) [0, 1] (by decide) rfl
  have hFc := va_free (wc := [(a1, .inr (16, [.ref a2, .ref a3, .ref a4, .ref a5, .ref a6, .ref a7, .ref a8, .ref a9, .ref a10, .ref a11])), (a2, .inr (10, [.ref a12, .ref a13, .ref a14, .ref a15, .ref a16, .int 0, .int 0]))]) hD hS hA [0, 1] rfl
  refine vx_callv (vx_runV (As := [.int p3]) (rest := []) ⟨hx, hb, hml, hown, hts⟩ (xcX11_needPoint l hst dC dI T a1 a2 a3 a4 a5 a6 a7 a8 a9 a10 a11 a12 a13 a14 a15 a16 s.heap.size p3) (cwV 1 hts gX11_sees_X11_needPoint rfl rfl rfl (by decide +kernel) ⟨Nat.le_of_ble_eq_true rfl, Nat.le_of_ble_eq_true rfl⟩) ⟨xBlind, va_recv hK hPc (ci := 16) (q0 := 0) rfl rfl, xCall hK hG hS hPc hDc hFc⟩ rfl rfl hl.1 rfl (lv_room (Nat.le_of_ble_eq_true rfl)) dX11_sees_2 ⟨Nat.le_of_ble_eq_true rfl, Nat.le_of_ble_eq_true rfl⟩) hS (fun q _ h => hFc q h) hFc (fun q _ h => hFc q h) (fun E ce q9 u t H locs ht hvm hw hB hz1 hk1 hS hce hcv hcl => ?_) (fun u t H locs ht hvm hw hB hz1 hk1 hS => ?_)
  · rcases hB with ⟨hE, hP1, hD1⟩
    subst hE
    rw [ht] at hP1
    obtain ⟨hP, hD⟩ := va_join (wr := []) (w1 := [(a1, .inr (16, [.ref a2, .ref a3, .ref a4, .ref a5, .ref a6, .ref a7, .ref a8, .ref a9, .ref a10, .ref a11])), (a2, .inr (10, [.ref a12, .ref a13, .ref a14, .ref a15, .ref a16, .int 0, .int 0]))]) hP hD [0, 1] [] rfl rfl (by decide) (by decide) hk1 hFc hP1 hD1
    have hP : va_P (dC, dI) vwCl [(a1, .inr (16, [.ref a2, .ref a3, .ref a4, .ref a5, .ref a6, .ref a7, .ref a8, .ref a9, .ref a10, .ref a11])), (a2, .inr (10, [.ref a12, .ref a13, .ref a14, .ref a15, .ref a16, .int 0, .int 0]))] H := hP
    have hD : va_D A [(a1, .inr (16, [.ref a2, .ref a3, .ref a4, .ref a5, .ref a6, .ref a7, .ref a8, .ref a9, .ref a10, .ref a11])), (a2, .inr (10, [.ref a12, .ref a13, .ref a14, .ref a15, .ref a16, .int 0, .int 0]))] := hD
    clear hPc hDc hFc hP1 hD1 hk1 hz1 ht hvm
    have hP9 := hP.sub (ws' := []) [] rfl
    have hD9 := hD.sub (ws' := []) [] (by decide) rfl
    exact vx_out (fun x hx => absurd (hex x hx) id) hlocks hce hcv hcl (fun t ht _ => ⟨(), trivial, ⟨rfl, by rw [ht]; exact hP9, hD9⟩, hS.F ht⟩) hS.2.2 (Nat.le_of_ble_eq_true rfl) (Nat.le_of_ble_eq_true rfl)
  · exact absurd hB id
set_option maxHeartbeats 4000000 in
set_option maxRecDepth 100000 in
theorem xcL_sees (l : Launch) (hst : l.stackTraces = false) (dC : Nat → ClassId) (dI : Nat → Nat → Nat) (T : Nat → ClassId) (a1 : Nat) (a2 : Nat) (a3 : Nat) (a4 : Nat) (a5 : Nat) (a6 : Nat) (a7 : Nat) (a8 : Nat) (a9 : Nat) (a10 : Nat) (a11 : Nat) (a12 : Nat) (a13 : Nat) (a14 : Nat) (a15 : Nat) (a16 : Nat) (a17 : Nat) (sz : Nat) (p1 : Int32) (p2 : Int32) (p3 : Int32) : Met l yL_sees wsL_sees ({ frames := 8, cells := 1, slots := 6, locals := 126 } : Room) (va_Pc [.ref a1, .int p1, .int p2, .int p3, .ref a2] (fun U => xB dC dI T [(a1, .inr (16, [.ref a3, .ref a4, .ref a5, .ref a6, .ref a7, .ref a8, .ref a9, .ref a10, .ref a11, .ref a12])), (a3, .inr (10, [.ref a13, .ref a14, .ref a15, .ref a16, .ref a17, .int 0, .int 0]))] sz U)) (va_Qi (fun (r u : Int32) => r = u) (fun (u : Int32) (t : State) => 1 = u ∧ xE dC dI [] (va_A [(a1, .inr (16, [.ref a3, .ref a4, .ref a5, .ref a6, .ref a7, .ref a8, .ref a9, .ref a10, .ref a11, .ref a12])), (a3, .inr (10, [.ref a13, .ref a14, .ref a15, .ref a16, .ref a17, .int 0, .int 0]))] sz) t) (va_A [(a1, .inr (16, [.ref a3, .ref a4, .ref a5, .ref a6, .ref a7, .ref a8, .ref a9, .ref a10, .ref a11, .ref a12])), (a3, .inr (10, [.ref a13, .ref a14, .ref a15, .ref a16, .ref a17, .int 0, .int 0]))] sz)) 1 6 (va_A [(a1, .inr (16, [.ref a3, .ref a4, .ref a5, .ref a6, .ref a7, .ref a8, .ref a9, .ref a10, .ref a11, .ref a12])), (a3, .inr (10, [.ref a13, .ref a14, .ref a15, .ref a16, .ref a17, .int 0, .int 0]))] sz) := by
  refine va_MetW (cc := cL_sees) (maxL := 6) (ret := (some .int)) (hh := [(0, 19, 22, 23), (0, 19, 26, 13)]) (by decide +kernel) rfl ?_
  intro p e s m args below meth c s₁ B hml hv
  obtain ⟨rfl, hsz, hP, hK, hD0, hG⟩ := hv
  have hx := B.exec
  have hb := B.bytes
  have hr := B.returns
  have hts := atoms_spec (ws := wsL_sees) B.pre
  have hown : s.vm.findClass RL = some m.cls := findClass_of_methodNamed B.named
  have hlocks := B.notSynchronized
  have htab := vx_table (x := yL_sees) B (hts (.codeWith yL_sees cL_sees 6 (some .int) [(0, 19, 22, 23), (0, 19, 26, 13)]) (by decide +kernel))
  subst hsz
  have hD := hD0.self (sz := s.heap.size)
  generalize hAe : va_A [(a1, .inr (16, [.ref a3, .ref a4, .ref a5, .ref a6, .ref a7, .ref a8, .ref a9, .ref a10, .ref a11, .ref a12])), (a3, .inr (10, [.ref a13, .ref a14, .ref a15, .ref a16, .ref a17, .int 0, .int 0]))] s.heap.size = A at hD hG ⊢
  have hA : ∀ q : Nat, s.heap.size ≤ q → A q := fun q h => by rw [← hAe]; exact Or.inr h
  have hS : va_S A s.heap s.heap [] := va_S.rf
  have hl := lv_entry ([.ref a1, .int p1, .int p2, .int p3, .ref a2]) (n := 6) (Nat.le_of_ble_eq_true rfl)
  rw [lg_entry_eq]
  generalize (lg_sl ([.ref a1, .int p1, .int p2, .int p3, .ref a2]) ++ List.replicate (6 - (lg_sl ([.ref a1, .int p1, .int p2, .int p3, .ref a2])).length) Slot.unset).toArray = ls at hl ⊢
  have hl : lv_has ls 6 [(0, .ref a1), (1, .int p1), (2, .int p2), (3, .int p3), (4, .ref a2)] := hl
  refine lv_aload hx hb dL_sees_0 (lv_at hl 4 rfl) ?_
  refine lv_iconst (v := 0) hx hb dL_sees_2 (by decide) ?_
  refine lv_aload_n hx hb dL_sees_3 rfl (lv_at hl 0 rfl) ?_
  refine lv_iload_n hx hb dL_sees_4 rfl (lv_at hl 1 rfl) ?_
  refine lv_iload_n hx hb dL_sees_5 rfl (lv_at hl 2 rfl) ?_
  refine lv_iload_n hx hb dL_sees_6 rfl (lv_at hl 3 rfl) ?_
  have hPc := hP.sub (ws' := [(a1, .inr (16, [.ref a3, .ref a4, .ref a5, .ref a6, .ref a7, .ref a8, .ref a9, .ref a10, .ref a11, .ref a12])), (a3, .inr (10, [.ref a13, .ref a14, .ref a15, .ref a16, .ref a17, .int 0, .int 0]))]) [0, 1] rfl
  have hDc := hD.sub (ws' := [(a1, .inr (16, [.ref a3, .ref a4, .ref a5, .ref a6, .ref a7, .ref a8, .ref a9, .ref a10, .ref a11, .ref a12])), (a3, .inr (10, [.ref a13, .ref a14, .ref a15, .ref a16, .ref a17, .int 0, .int 0]))]) [0, 1] (by decide) rfl
  have hFc := va_free (wc := [(a1, .inr (16, [.ref a3, .ref a4, .ref a5, .ref a6, .ref a7, .ref a8, .ref a9, .ref a10, .ref a11, .ref a12])), (a3, .inr (10, [.ref a13, .ref a14, .ref a15, .ref a16, .ref a17, .int 0, .int 0]))]) hD hS hA [0, 1] rfl
  refine vx_calli (vx_runV (As := [.int p1, .int p2, .int p3]) (rest := [.int 0, .ref a2]) ⟨hx, hb, hml, hown, hts⟩ (xcX11_sees l hst dC dI T a1 a3 a4 a5 a6 a7 a8 a9 a10 a11 a12 a13 a14 a15 a16 a17 s.heap.size p1 p2 p3) (cwV 3 hts gL_sees_X11_sees rfl rfl rfl (by decide +kernel) ⟨Nat.le_of_ble_eq_true rfl, Nat.le_of_ble_eq_true rfl⟩) ⟨xBlind, va_recv hK hPc (ci := 16) (q0 := 0) rfl rfl, xCall hK hG hS hPc hDc hFc⟩ rfl rfl hl.1 rfl (lv_room (Nat.le_of_ble_eq_true rfl)) dL_sees_7 ⟨Nat.le_of_ble_eq_true rfl, Nat.le_of_ble_eq_true rfl⟩) hS (fun q _ h => hFc q h) hFc (fun q _ h => hFc q h) (fun E ce q9 u t H locs ht hvm hw hB hz1 hk1 hS hce hcv hcl => ?_) (fun r_9 u t H locs ht hvm hw hB hz1 hk1 hS => ?_)
  · rcases hB with ⟨hE, hP1, hD1⟩
    subst hE
    rw [ht] at hP1
    obtain ⟨hP, hD⟩ := va_join (wr := []) (w1 := []) hP hD [0, 1] [] rfl rfl (by decide) (by decide) hk1 hFc hP1 hD1
    have hP : va_P (dC, dI) vwCl [] H := hP
    have hD : va_D A [] := hD
    clear hPc hDc hFc hP1 hD1 hk1 hz1 ht hvm
    refine vx_catch (E := "java/lang/IndexOutOfBoundsException") (name := "java/lang/IndexOutOfBoundsException") hown [] ⟨0, 19, 22, 23⟩ [⟨0, 19, 26, 13⟩] (htab.trans rfl) (fun _ h => absurd h List.not_mem_nil) (by decide) (by decide) (hts (.classLink RL 23 "java/lang/IndexOutOfBoundsException") (by decide +kernel)) (xBad_use hG.2.2.2.1 _ (by decide +kernel)) hce hcv hcl ?_
    refine lv_astore (lv' := [(5, .ref q9), (0, .ref a1), (1, .int p1), (2, .int p2), (3, .int p3), (4, .ref a2)]) hx hb dL_sees_22 hl (by decide) rfl (fun ls hl => ?_)
    refine lv_iconst (v := 1) hx hb dL_sees_24 (by decide) ?_
    have hP9 := hP.sub (ws' := []) [] rfl
    have hD9 := hD.sub (ws' := []) [] (by decide) rfl
    exact W.iret (v := 1) hx hb hr (fun t ht hW => ⟨⟨_, _, rfl, rfl, ⟨rfl, by rw [ht]; exact hP9, hD9⟩⟩, hS.F ht⟩) hS.2.2 dL_sees_25
  · exact absurd hB id
set_option maxHeartbeats 4000000 in
set_option maxRecDepth 100000 in
theorem xcX11_setSpeed (l : Launch) (hst : l.stackTraces = false) (dC : Nat → ClassId) (dI : Nat → Nat → Nat) (T : Nat → ClassId) (a1 : Nat) (a2 : Nat) (a3 : Nat) (a4 : Nat) (a5 : Nat) (a6 : Nat) (a7 : Nat) (a8 : Nat) (a9 : Nat) (a10 : Nat) (a11 : Nat) (a12 : Nat) (a13 : Nat) (a14 : Nat) (a15 : Nat) (a16 : Nat) (sz : Nat) (p1 : Int32) (p2 : Int32) (p3 : Int32) : vx_Met l yX11_setSpeed wsX11_setSpeed ({ frames := 7, cells := 1, slots := 6, locals := 103 } : Room) (va_Pc [.ref a1, .int p1, .int p2, .int p3] (fun U => xB dC dI T [(a1, .inr (16, [.ref a2, .ref a3, .ref a4, .ref a5, .ref a6, .ref a7, .ref a8, .ref a9, .ref a10, .ref a11])), (a2, .inr (10, [.ref a12, .ref a13, .ref a14, .ref a15, .ref a16, .int 0, .int 0]))] sz U)) (va_Qi (fun (r u : Int32) => r = u) (fun (u : Int32) (t : State) => False) (va_A [(a1, .inr (16, [.ref a2, .ref a3, .ref a4, .ref a5, .ref a6, .ref a7, .ref a8, .ref a9, .ref a10, .ref a11])), (a2, .inr (10, [.ref a12, .ref a13, .ref a14, .ref a15, .ref a16, .int 0, .int 0]))] sz)) (vx_X (fun _ : Unit => True) (fun (E : String) (_ : Unit) (t : State) => E = "java/lang/IndexOutOfBoundsException" ∧ xE dC dI [] (va_A [(a1, .inr (16, [.ref a2, .ref a3, .ref a4, .ref a5, .ref a6, .ref a7, .ref a8, .ref a9, .ref a10, .ref a11])), (a2, .inr (10, [.ref a12, .ref a13, .ref a14, .ref a15, .ref a16, .int 0, .int 0]))] sz) t) (va_A [(a1, .inr (16, [.ref a2, .ref a3, .ref a4, .ref a5, .ref a6, .ref a7, .ref a8, .ref a9, .ref a10, .ref a11])), (a2, .inr (10, [.ref a12, .ref a13, .ref a14, .ref a15, .ref a16, .int 0, .int 0]))] sz)) 1 6 (va_A [(a1, .inr (16, [.ref a2, .ref a3, .ref a4, .ref a5, .ref a6, .ref a7, .ref a8, .ref a9, .ref a10, .ref a11])), (a2, .inr (10, [.ref a12, .ref a13, .ref a14, .ref a15, .ref a16, .int 0, .int 0]))] sz) := by
  refine vx_ofW (cc := cX11_setSpeed) (maxL := 5) (ret := (some .boolean)) (by decide +kernel) rfl ?_
  intro p e s m args below meth c s₁ B hml hex hv
  obtain ⟨rfl, hsz, hP, hK, hD0, hG⟩ := hv
  have hx := B.exec
  have hb := B.bytes
  have hr := B.returns
  have hts := atoms_spec (ws := wsX11_setSpeed) B.pre
  have hown : s.vm.findClass RX11 = some m.cls := findClass_of_methodNamed B.named
  have hlocks := B.notSynchronized
  subst hsz
  have hD := hD0.self (sz := s.heap.size)
  generalize hAe : va_A [(a1, .inr (16, [.ref a2, .ref a3, .ref a4, .ref a5, .ref a6, .ref a7, .ref a8, .ref a9, .ref a10, .ref a11])), (a2, .inr (10, [.ref a12, .ref a13, .ref a14, .ref a15, .ref a16, .int 0, .int 0]))] s.heap.size = A at hD hG ⊢
  have hA : ∀ q : Nat, s.heap.size ≤ q → A q := fun q h => by rw [← hAe]; exact Or.inr h
  have hS : va_S A s.heap s.heap [] := va_S.rf
  have hl := lv_entry ([.ref a1, .int p1, .int p2, .int p3]) (n := 5) (Nat.le_of_ble_eq_true rfl)
  rw [lg_entry_eq]
  generalize (lg_sl ([.ref a1, .int p1, .int p2, .int p3]) ++ List.replicate (5 - (lg_sl ([.ref a1, .int p1, .int p2, .int p3])).length) Slot.unset).toArray = ls at hl ⊢
  have hl : lv_has ls 5 [(0, .ref a1), (1, .int p1), (2, .int p2), (3, .int p3)] := hl
  refine lv_aload_n hx hb dX11_setSpeed_0 rfl (lv_at hl 0 rfl) ?_
  refine lv_iload_n hx hb dX11_setSpeed_1 rfl (lv_at hl 1 rfl) ?_
  have hPc := hP.sub (ws' := [(a1, .inr (16, [.ref a2, .ref a3, .ref a4, .ref a5, .ref a6, .ref a7, .ref a8, .ref a9, .ref a10, .ref a11])), (a2, .inr (10, [.ref a12, .ref a13, .ref a14, .ref a15, .ref a16, .int 0, .int 0]))]) [0, 1] rfl
  have hDc := hD.sub (ws' := [(a1, .inr (16, [.ref a2, .ref a3, .ref a4, .ref a5, .ref a6, .ref a7, .ref a8, .ref a9, .ref a10, .ref a11])), (a2, .inr (10, [.ref a12, .ref a13, .ref a14, .ref a15, .ref a16, .int 0, .int 0]))]) [0, 1] (by decide) rfl
  have hFc := va_free (wc := [(a1, .inr (16, [.ref a2, .ref a3, .ref a4, .ref a5, .ref a6, .ref a7, .ref a8, .ref a9, .ref a10, .ref a11])), (a2, .inr (10, [.ref a12, .ref a13, .ref a14, .ref a15, .ref a16, .int 0, .int 0]))]) hD hS hA [0, 1] rfl
  refine vx_callv (vx_runV (As := [.int p1]) (rest := []) ⟨hx, hb, hml, hown, hts⟩ (xcX11_needPoint l hst dC dI T a1 a2 a3 a4 a5 a6 a7 a8 a9 a10 a11 a12 a13 a14 a15 a16 s.heap.size p1) (cwV 1 hts gX11_setSpeed_X11_needPoint rfl rfl rfl (by decide +kernel) ⟨Nat.le_of_ble_eq_true rfl, Nat.le_of_ble_eq_true rfl⟩) ⟨xBlind, va_recv hK hPc (ci := 16) (q0 := 0) rfl rfl, xCall hK hG hS hPc hDc hFc⟩ rfl rfl hl.1 rfl (lv_room (Nat.le_of_ble_eq_true rfl)) dX11_setSpeed_2 ⟨Nat.le_of_ble_eq_true rfl, Nat.le_of_ble_eq_true rfl⟩) hS (fun q _ h => hFc q h) hFc (fun q _ h => hFc q h) (fun E ce q9 u t H locs ht hvm hw hB hz1 hk1 hS hce hcv hcl => ?_) (fun u t H locs ht hvm hw hB hz1 hk1 hS => ?_)
  · rcases hB with ⟨hE, hP1, hD1⟩
    subst hE
    rw [ht] at hP1
    obtain ⟨hP, hD⟩ := va_join (wr := []) (w1 := [(a1, .inr (16, [.ref a2, .ref a3, .ref a4, .ref a5, .ref a6, .ref a7, .ref a8, .ref a9, .ref a10, .ref a11])), (a2, .inr (10, [.ref a12, .ref a13, .ref a14, .ref a15, .ref a16, .int 0, .int 0]))]) hP hD [0, 1] [] rfl rfl (by decide) (by decide) hk1 hFc hP1 hD1
    have hP : va_P (dC, dI) vwCl [(a1, .inr (16, [.ref a2, .ref a3, .ref a4, .ref a5, .ref a6, .ref a7, .ref a8, .ref a9, .ref a10, .ref a11])), (a2, .inr (10, [.ref a12, .ref a13, .ref a14, .ref a15, .ref a16, .int 0, .int 0]))] H := hP
    have hD : va_D A [(a1, .inr (16, [.ref a2, .ref a3, .ref a4, .ref a5, .ref a6, .ref a7, .ref a8, .ref a9, .ref a10, .ref a11])), (a2, .inr (10, [.ref a12, .ref a13, .ref a14, .ref a15, .ref a16, .int 0, .int 0]))] := hD
    clear hPc hDc hFc hP1 hD1 hk1 hz1 ht hvm
    have hP9 := hP.sub (ws' := []) [] rfl
    have hD9 := hD.sub (ws' := []) [] (by decide) rfl
    exact vx_out (fun x hx => absurd (hex x hx) id) hlocks hce hcv hcl (fun t ht _ => ⟨(), trivial, ⟨rfl, by rw [ht]; exact hP9, hD9⟩, hS.F ht⟩) hS.2.2 (Nat.le_of_ble_eq_true rfl) (Nat.le_of_ble_eq_true rfl)
  · exact absurd hB id
set_option maxHeartbeats 4000000 in
set_option maxRecDepth 100000 in
theorem xcL_setSpeed (l : Launch) (hst : l.stackTraces = false) (dC : Nat → ClassId) (dI : Nat → Nat → Nat) (T : Nat → ClassId) (a1 : Nat) (a2 : Nat) (a3 : Nat) (a4 : Nat) (a5 : Nat) (a6 : Nat) (a7 : Nat) (a8 : Nat) (a9 : Nat) (a10 : Nat) (a11 : Nat) (a12 : Nat) (a13 : Nat) (a14 : Nat) (a15 : Nat) (a16 : Nat) (a17 : Nat) (sz : Nat) (p1 : Int32) (p2 : Int32) (p3 : Int32) : Met l yL_setSpeed wsL_setSpeed ({ frames := 8, cells := 1, slots := 6, locals := 127 } : Room) (va_Pc [.ref a1, .int p1, .int p2, .int p3, .ref a2] (fun U => xB dC dI T [(a1, .inr (16, [.ref a3, .ref a4, .ref a5, .ref a6, .ref a7, .ref a8, .ref a9, .ref a10, .ref a11, .ref a12])), (a3, .inr (10, [.ref a13, .ref a14, .ref a15, .ref a16, .ref a17, .int 0, .int 0]))] sz U)) (va_Qi (fun (r u : Int32) => r = u) (fun (u : Int32) (t : State) => 1 = u ∧ xE dC dI [] (va_A [(a1, .inr (16, [.ref a3, .ref a4, .ref a5, .ref a6, .ref a7, .ref a8, .ref a9, .ref a10, .ref a11, .ref a12])), (a3, .inr (10, [.ref a13, .ref a14, .ref a15, .ref a16, .ref a17, .int 0, .int 0]))] sz) t) (va_A [(a1, .inr (16, [.ref a3, .ref a4, .ref a5, .ref a6, .ref a7, .ref a8, .ref a9, .ref a10, .ref a11, .ref a12])), (a3, .inr (10, [.ref a13, .ref a14, .ref a15, .ref a16, .ref a17, .int 0, .int 0]))] sz)) 1 6 (va_A [(a1, .inr (16, [.ref a3, .ref a4, .ref a5, .ref a6, .ref a7, .ref a8, .ref a9, .ref a10, .ref a11, .ref a12])), (a3, .inr (10, [.ref a13, .ref a14, .ref a15, .ref a16, .ref a17, .int 0, .int 0]))] sz) := by
  refine va_MetW (cc := cL_setSpeed) (maxL := 6) (ret := (some .int)) (hh := [(0, 19, 22, 23), (0, 19, 26, 13)]) (by decide +kernel) rfl ?_
  intro p e s m args below meth c s₁ B hml hv
  obtain ⟨rfl, hsz, hP, hK, hD0, hG⟩ := hv
  have hx := B.exec
  have hb := B.bytes
  have hr := B.returns
  have hts := atoms_spec (ws := wsL_setSpeed) B.pre
  have hown : s.vm.findClass RL = some m.cls := findClass_of_methodNamed B.named
  have hlocks := B.notSynchronized
  have htab := vx_table (x := yL_setSpeed) B (hts (.codeWith yL_setSpeed cL_setSpeed 6 (some .int) [(0, 19, 22, 23), (0, 19, 26, 13)]) (by decide +kernel))
  subst hsz
  have hD := hD0.self (sz := s.heap.size)
  generalize hAe : va_A [(a1, .inr (16, [.ref a3, .ref a4, .ref a5, .ref a6, .ref a7, .ref a8, .ref a9, .ref a10, .ref a11, .ref a12])), (a3, .inr (10, [.ref a13, .ref a14, .ref a15, .ref a16, .ref a17, .int 0, .int 0]))] s.heap.size = A at hD hG ⊢
  have hA : ∀ q : Nat, s.heap.size ≤ q → A q := fun q h => by rw [← hAe]; exact Or.inr h
  have hS : va_S A s.heap s.heap [] := va_S.rf
  have hl := lv_entry ([.ref a1, .int p1, .int p2, .int p3, .ref a2]) (n := 6) (Nat.le_of_ble_eq_true rfl)
  rw [lg_entry_eq]
  generalize (lg_sl ([.ref a1, .int p1, .int p2, .int p3, .ref a2]) ++ List.replicate (6 - (lg_sl ([.ref a1, .int p1, .int p2, .int p3, .ref a2])).length) Slot.unset).toArray = ls at hl ⊢
  have hl : lv_has ls 6 [(0, .ref a1), (1, .int p1), (2, .int p2), (3, .int p3), (4, .ref a2)] := hl
  refine lv_aload hx hb dL_setSpeed_0 (lv_at hl 4 rfl) ?_
  refine lv_iconst (v := 0) hx hb dL_setSpeed_2 (by decide) ?_
  refine lv_aload_n hx hb dL_setSpeed_3 rfl (lv_at hl 0 rfl) ?_
  refine lv_iload_n hx hb dL_setSpeed_4 rfl (lv_at hl 1 rfl) ?_
  refine lv_iload_n hx hb dL_setSpeed_5 rfl (lv_at hl 2 rfl) ?_
  refine lv_iload_n hx hb dL_setSpeed_6 rfl (lv_at hl 3 rfl) ?_
  have hPc := hP.sub (ws' := [(a1, .inr (16, [.ref a3, .ref a4, .ref a5, .ref a6, .ref a7, .ref a8, .ref a9, .ref a10, .ref a11, .ref a12])), (a3, .inr (10, [.ref a13, .ref a14, .ref a15, .ref a16, .ref a17, .int 0, .int 0]))]) [0, 1] rfl
  have hDc := hD.sub (ws' := [(a1, .inr (16, [.ref a3, .ref a4, .ref a5, .ref a6, .ref a7, .ref a8, .ref a9, .ref a10, .ref a11, .ref a12])), (a3, .inr (10, [.ref a13, .ref a14, .ref a15, .ref a16, .ref a17, .int 0, .int 0]))]) [0, 1] (by decide) rfl
  have hFc := va_free (wc := [(a1, .inr (16, [.ref a3, .ref a4, .ref a5, .ref a6, .ref a7, .ref a8, .ref a9, .ref a10, .ref a11, .ref a12])), (a3, .inr (10, [.ref a13, .ref a14, .ref a15, .ref a16, .ref a17, .int 0, .int 0]))]) hD hS hA [0, 1] rfl
  refine vx_calli (vx_runV (As := [.int p1, .int p2, .int p3]) (rest := [.int 0, .ref a2]) ⟨hx, hb, hml, hown, hts⟩ (xcX11_setSpeed l hst dC dI T a1 a3 a4 a5 a6 a7 a8 a9 a10 a11 a12 a13 a14 a15 a16 a17 s.heap.size p1 p2 p3) (cwV 3 hts gL_setSpeed_X11_setSpeed rfl rfl rfl (by decide +kernel) ⟨Nat.le_of_ble_eq_true rfl, Nat.le_of_ble_eq_true rfl⟩) ⟨xBlind, va_recv hK hPc (ci := 16) (q0 := 0) rfl rfl, xCall hK hG hS hPc hDc hFc⟩ rfl rfl hl.1 rfl (lv_room (Nat.le_of_ble_eq_true rfl)) dL_setSpeed_7 ⟨Nat.le_of_ble_eq_true rfl, Nat.le_of_ble_eq_true rfl⟩) hS (fun q _ h => hFc q h) hFc (fun q _ h => hFc q h) (fun E ce q9 u t H locs ht hvm hw hB hz1 hk1 hS hce hcv hcl => ?_) (fun r_9 u t H locs ht hvm hw hB hz1 hk1 hS => ?_)
  · rcases hB with ⟨hE, hP1, hD1⟩
    subst hE
    rw [ht] at hP1
    obtain ⟨hP, hD⟩ := va_join (wr := []) (w1 := []) hP hD [0, 1] [] rfl rfl (by decide) (by decide) hk1 hFc hP1 hD1
    have hP : va_P (dC, dI) vwCl [] H := hP
    have hD : va_D A [] := hD
    clear hPc hDc hFc hP1 hD1 hk1 hz1 ht hvm
    refine vx_catch (E := "java/lang/IndexOutOfBoundsException") (name := "java/lang/IndexOutOfBoundsException") hown [] ⟨0, 19, 22, 23⟩ [⟨0, 19, 26, 13⟩] (htab.trans rfl) (fun _ h => absurd h List.not_mem_nil) (by decide) (by decide) (hts (.classLink RL 23 "java/lang/IndexOutOfBoundsException") (by decide +kernel)) (xBad_use hG.2.2.2.1 _ (by decide +kernel)) hce hcv hcl ?_
    refine lv_astore (lv' := [(5, .ref q9), (0, .ref a1), (1, .int p1), (2, .int p2), (3, .int p3), (4, .ref a2)]) hx hb dL_setSpeed_22 hl (by decide) rfl (fun ls hl => ?_)
    refine lv_iconst (v := 1) hx hb dL_setSpeed_24 (by decide) ?_
    have hP9 := hP.sub (ws' := []) [] rfl
    have hD9 := hD.sub (ws' := []) [] (by decide) rfl
    exact W.iret (v := 1) hx hb hr (fun t ht hW => ⟨⟨_, _, rfl, rfl, ⟨rfl, by rw [ht]; exact hP9, hD9⟩⟩, hS.F ht⟩) hS.2.2 dL_setSpeed_25
  · exact absurd hB id
set_option maxHeartbeats 4000000 in
set_option maxRecDepth 100000 in
theorem xcX11_setWeight (l : Launch) (hst : l.stackTraces = false) (dC : Nat → ClassId) (dI : Nat → Nat → Nat) (T : Nat → ClassId) (a1 : Nat) (a2 : Nat) (a3 : Nat) (a4 : Nat) (a5 : Nat) (a6 : Nat) (a7 : Nat) (a8 : Nat) (a9 : Nat) (a10 : Nat) (a11 : Nat) (a12 : Nat) (a13 : Nat) (a14 : Nat) (a15 : Nat) (a16 : Nat) (sz : Nat) (p1 : Int32) (p2 : Int32) : vx_Met l yX11_setWeight wsX11_setWeight ({ frames := 7, cells := 1, slots := 6, locals := 103 } : Room) (va_Pc [.ref a1, .int p1, .int p2] (fun U => xB dC dI T [(a1, .inr (16, [.ref a2, .ref a3, .ref a4, .ref a5, .ref a6, .ref a7, .ref a8, .ref a9, .ref a10, .ref a11])), (a2, .inr (10, [.ref a12, .ref a13, .ref a14, .ref a15, .ref a16, .int 0, .int 0]))] sz U)) (va_Qi (fun (r u : Int32) => r = u) (fun (u : Int32) (t : State) => False) (va_A [(a1, .inr (16, [.ref a2, .ref a3, .ref a4, .ref a5, .ref a6, .ref a7, .ref a8, .ref a9, .ref a10, .ref a11])), (a2, .inr (10, [.ref a12, .ref a13, .ref a14, .ref a15, .ref a16, .int 0, .int 0]))] sz)) (vx_X (fun _ : Unit => True) (fun (E : String) (_ : Unit) (t : State) => E = "java/lang/IndexOutOfBoundsException" ∧ xE dC dI [] (va_A [(a1, .inr (16, [.ref a2, .ref a3, .ref a4, .ref a5, .ref a6, .ref a7, .ref a8, .ref a9, .ref a10, .ref a11])), (a2, .inr (10, [.ref a12, .ref a13, .ref a14, .ref a15, .ref a16, .int 0, .int 0]))] sz) t) (va_A [(a1, .inr (16, [.ref a2, .ref a3, .ref a4, .ref a5, .ref a6, .ref a7, .ref a8, .ref a9, .ref a10, .ref a11])), (a2, .inr (10, [.ref a12, .ref a13, .ref a14, .ref a15, .ref a16, .int 0, .int 0]))] sz)) 1 6 (va_A [(a1, .inr (16, [.ref a2, .ref a3, .ref a4, .ref a5, .ref a6, .ref a7, .ref a8, .ref a9, .ref a10, .ref a11])), (a2, .inr (10, [.ref a12, .ref a13, .ref a14, .ref a15, .ref a16, .int 0, .int 0]))] sz) := by
  refine vx_ofW (cc := cX11_setWeight) (maxL := 4) (ret := (some .int)) (by decide +kernel) rfl ?_
  intro p e s m args below meth c s₁ B hml hex hv
  obtain ⟨rfl, hsz, hP, hK, hD0, hG⟩ := hv
  have hx := B.exec
  have hb := B.bytes
  have hr := B.returns
  have hts := atoms_spec (ws := wsX11_setWeight) B.pre
  have hown : s.vm.findClass RX11 = some m.cls := findClass_of_methodNamed B.named
  have hlocks := B.notSynchronized
  subst hsz
  have hD := hD0.self (sz := s.heap.size)
  generalize hAe : va_A [(a1, .inr (16, [.ref a2, .ref a3, .ref a4, .ref a5, .ref a6, .ref a7, .ref a8, .ref a9, .ref a10, .ref a11])), (a2, .inr (10, [.ref a12, .ref a13, .ref a14, .ref a15, .ref a16, .int 0, .int 0]))] s.heap.size = A at hD hG ⊢
  have hA : ∀ q : Nat, s.heap.size ≤ q → A q := fun q h => by rw [← hAe]; exact Or.inr h
  have hS : va_S A s.heap s.heap [] := va_S.rf
  have hl := lv_entry ([.ref a1, .int p1, .int p2]) (n := 4) (Nat.le_of_ble_eq_true rfl)
  rw [lg_entry_eq]
  generalize (lg_sl ([.ref a1, .int p1, .int p2]) ++ List.replicate (4 - (lg_sl ([.ref a1, .int p1, .int p2])).length) Slot.unset).toArray = ls at hl ⊢
  have hl : lv_has ls 4 [(0, .ref a1), (1, .int p1), (2, .int p2)] := hl
  refine lv_aload_n hx hb dX11_setWeight_0 rfl (lv_at hl 0 rfl) ?_
  refine lv_iload_n hx hb dX11_setWeight_1 rfl (lv_at hl 1 rfl) ?_
  have hPc := hP.sub (ws' := [(a1, .inr (16, [.ref a2, .ref a3, .ref a4, .ref a5, .ref a6, .ref a7, .ref a8, .ref a9, .ref a10, .ref a11])), (a2, .inr (10, [.ref a12, .ref a13, .ref a14, .ref a15, .ref a16, .int 0, .int 0]))]) [0, 1] rfl
  have hDc := hD.sub (ws' := [(a1, .inr (16, [.ref a2, .ref a3, .ref a4, .ref a5, .ref a6, .ref a7, .ref a8, .ref a9, .ref a10, .ref a11])), (a2, .inr (10, [.ref a12, .ref a13, .ref a14, .ref a15, .ref a16, .int 0, .int 0]))]) [0, 1] (by decide) rfl
  have hFc := va_free (wc := [(a1, .inr (16, [.ref a2, .ref a3, .ref a4, .ref a5, .ref a6, .ref a7, .ref a8, .ref a9, .ref a10, .ref a11])), (a2, .inr (10, [.ref a12, .ref a13, .ref a14, .ref a15, .ref a16, .int 0, .int 0]))]) hD hS hA [0, 1] rfl
  refine vx_callv (vx_runV (As := [.int p1]) (rest := []) ⟨hx, hb, hml, hown, hts⟩ (xcX11_needPoint l hst dC dI T a1 a2 a3 a4 a5 a6 a7 a8 a9 a10 a11 a12 a13 a14 a15 a16 s.heap.size p1) (cwV 1 hts gX11_setWeight_X11_needPoint rfl rfl rfl (by decide +kernel) ⟨Nat.le_of_ble_eq_true rfl, Nat.le_of_ble_eq_true rfl⟩) ⟨xBlind, va_recv hK hPc (ci := 16) (q0 := 0) rfl rfl, xCall hK hG hS hPc hDc hFc⟩ rfl rfl hl.1 rfl (lv_room (Nat.le_of_ble_eq_true rfl)) dX11_setWeight_2 ⟨Nat.le_of_ble_eq_true rfl, Nat.le_of_ble_eq_true rfl⟩) hS (fun q _ h => hFc q h) hFc (fun q _ h => hFc q h) (fun E ce q9 u t H locs ht hvm hw hB hz1 hk1 hS hce hcv hcl => ?_) (fun u t H locs ht hvm hw hB hz1 hk1 hS => ?_)
  · rcases hB with ⟨hE, hP1, hD1⟩
    subst hE
    rw [ht] at hP1
    obtain ⟨hP, hD⟩ := va_join (wr := []) (w1 := [(a1, .inr (16, [.ref a2, .ref a3, .ref a4, .ref a5, .ref a6, .ref a7, .ref a8, .ref a9, .ref a10, .ref a11])), (a2, .inr (10, [.ref a12, .ref a13, .ref a14, .ref a15, .ref a16, .int 0, .int 0]))]) hP hD [0, 1] [] rfl rfl (by decide) (by decide) hk1 hFc hP1 hD1
    have hP : va_P (dC, dI) vwCl [(a1, .inr (16, [.ref a2, .ref a3, .ref a4, .ref a5, .ref a6, .ref a7, .ref a8, .ref a9, .ref a10, .ref a11])), (a2, .inr (10, [.ref a12, .ref a13, .ref a14, .ref a15, .ref a16, .int 0, .int 0]))] H := hP
    have hD : va_D A [(a1, .inr (16, [.ref a2, .ref a3, .ref a4, .ref a5, .ref a6, .ref a7, .ref a8, .ref a9, .ref a10, .ref a11])), (a2, .inr (10, [.ref a12, .ref a13, .ref a14, .ref a15, .ref a16, .int 0, .int 0]))] := hD
    clear hPc hDc hFc hP1 hD1 hk1 hz1 ht hvm
    have hP9 := hP.sub (ws' := []) [] rfl
    have hD9 := hD.sub (ws' := []) [] (by decide) rfl
    exact vx_out (fun x hx => absurd (hex x hx) id) hlocks hce hcv hcl (fun t ht _ => ⟨(), trivial, ⟨rfl, by rw [ht]; exact hP9, hD9⟩, hS.F ht⟩) hS.2.2 (Nat.le_of_ble_eq_true rfl) (Nat.le_of_ble_eq_true rfl)
  · exact absurd hB id
set_option maxHeartbeats 4000000 in
set_option maxRecDepth 100000 in
theorem xcL_setWeight (l : Launch) (hst : l.stackTraces = false) (dC : Nat → ClassId) (dI : Nat → Nat → Nat) (T : Nat → ClassId) (a1 : Nat) (a2 : Nat) (a3 : Nat) (a4 : Nat) (a5 : Nat) (a6 : Nat) (a7 : Nat) (a8 : Nat) (a9 : Nat) (a10 : Nat) (a11 : Nat) (a12 : Nat) (a13 : Nat) (a14 : Nat) (a15 : Nat) (a16 : Nat) (a17 : Nat) (sz : Nat) (p1 : Int32) (p2 : Int32) : Met l yL_setWeight wsL_setWeight ({ frames := 8, cells := 1, slots := 6, locals := 126 } : Room) (va_Pc [.ref a1, .int p1, .int p2, .ref a2] (fun U => xB dC dI T [(a1, .inr (16, [.ref a3, .ref a4, .ref a5, .ref a6, .ref a7, .ref a8, .ref a9, .ref a10, .ref a11, .ref a12])), (a3, .inr (10, [.ref a13, .ref a14, .ref a15, .ref a16, .ref a17, .int 0, .int 0]))] sz U)) (va_Qi (fun (r u : Int32) => r = u) (fun (u : Int32) (t : State) => 1 = u ∧ xE dC dI [] (va_A [(a1, .inr (16, [.ref a3, .ref a4, .ref a5, .ref a6, .ref a7, .ref a8, .ref a9, .ref a10, .ref a11, .ref a12])), (a3, .inr (10, [.ref a13, .ref a14, .ref a15, .ref a16, .ref a17, .int 0, .int 0]))] sz) t) (va_A [(a1, .inr (16, [.ref a3, .ref a4, .ref a5, .ref a6, .ref a7, .ref a8, .ref a9, .ref a10, .ref a11, .ref a12])), (a3, .inr (10, [.ref a13, .ref a14, .ref a15, .ref a16, .ref a17, .int 0, .int 0]))] sz)) 1 6 (va_A [(a1, .inr (16, [.ref a3, .ref a4, .ref a5, .ref a6, .ref a7, .ref a8, .ref a9, .ref a10, .ref a11, .ref a12])), (a3, .inr (10, [.ref a13, .ref a14, .ref a15, .ref a16, .ref a17, .int 0, .int 0]))] sz) := by
  refine va_MetW (cc := cL_setWeight) (maxL := 5) (ret := (some .int)) (hh := [(0, 10, 13, 23), (0, 10, 17, 13)]) (by decide +kernel) rfl ?_
  intro p e s m args below meth c s₁ B hml hv
  obtain ⟨rfl, hsz, hP, hK, hD0, hG⟩ := hv
  have hx := B.exec
  have hb := B.bytes
  have hr := B.returns
  have hts := atoms_spec (ws := wsL_setWeight) B.pre
  have hown : s.vm.findClass RL = some m.cls := findClass_of_methodNamed B.named
  have hlocks := B.notSynchronized
  have htab := vx_table (x := yL_setWeight) B (hts (.codeWith yL_setWeight cL_setWeight 5 (some .int) [(0, 10, 13, 23), (0, 10, 17, 13)]) (by decide +kernel))
  subst hsz
  have hD := hD0.self (sz := s.heap.size)
  generalize hAe : va_A [(a1, .inr (16, [.ref a3, .ref a4, .ref a5, .ref a6, .ref a7, .ref a8, .ref a9, .ref a10, .ref a11, .ref a12])), (a3, .inr (10, [.ref a13, .ref a14, .ref a15, .ref a16, .ref a17, .int 0, .int 0]))] s.heap.size = A at hD hG ⊢
  have hA : ∀ q : Nat, s.heap.size ≤ q → A q := fun q h => by rw [← hAe]; exact Or.inr h
  have hS : va_S A s.heap s.heap [] := va_S.rf
  have hl := lv_entry ([.ref a1, .int p1, .int p2, .ref a2]) (n := 5) (Nat.le_of_ble_eq_true rfl)
  rw [lg_entry_eq]
  generalize (lg_sl ([.ref a1, .int p1, .int p2, .ref a2]) ++ List.replicate (5 - (lg_sl ([.ref a1, .int p1, .int p2, .ref a2])).length) Slot.unset).toArray = ls at hl ⊢
  have hl : lv_has ls 5 [(0, .ref a1), (1, .int p1), (2, .int p2), (3, .ref a2)] := hl
  refine lv_aload_n hx hb dL_setWeight_0 rfl (lv_at hl 3 rfl) ?_
  refine lv_iconst (v := 0) hx hb dL_setWeight_1 (by decide) ?_
  refine lv_aload_n hx hb dL_setWeight_2 rfl (lv_at hl 0 rfl) ?_
  refine lv_iload_n hx hb dL_setWeight_3 rfl (lv_at hl 1 rfl) ?_
  refine lv_iload_n hx hb dL_setWeight_4 rfl (lv_at hl 2 rfl) ?_
  have hPc := hP.sub (ws' := [(a1, .inr (16, [.ref a3, .ref a4, .ref a5, .ref a6, .ref a7, .ref a8, .ref a9, .ref a10, .ref a11, .ref a12])), (a3, .inr (10, [.ref a13, .ref a14, .ref a15, .ref a16, .ref a17, .int 0, .int 0]))]) [0, 1] rfl
  have hDc := hD.sub (ws' := [(a1, .inr (16, [.ref a3, .ref a4, .ref a5, .ref a6, .ref a7, .ref a8, .ref a9, .ref a10, .ref a11, .ref a12])), (a3, .inr (10, [.ref a13, .ref a14, .ref a15, .ref a16, .ref a17, .int 0, .int 0]))]) [0, 1] (by decide) rfl
  have hFc := va_free (wc := [(a1, .inr (16, [.ref a3, .ref a4, .ref a5, .ref a6, .ref a7, .ref a8, .ref a9, .ref a10, .ref a11, .ref a12])), (a3, .inr (10, [.ref a13, .ref a14, .ref a15, .ref a16, .ref a17, .int 0, .int 0]))]) hD hS hA [0, 1] rfl
  refine vx_calli (vx_runV (As := [.int p1, .int p2]) (rest := [.int 0, .ref a2]) ⟨hx, hb, hml, hown, hts⟩ (xcX11_setWeight l hst dC dI T a1 a3 a4 a5 a6 a7 a8 a9 a10 a11 a12 a13 a14 a15 a16 a17 s.heap.size p1 p2) (cwV 2 hts gL_setWeight_X11_setWeight rfl rfl rfl (by decide +kernel) ⟨Nat.le_of_ble_eq_true rfl, Nat.le_of_ble_eq_true rfl⟩) ⟨xBlind, va_recv hK hPc (ci := 16) (q0 := 0) rfl rfl, xCall hK hG hS hPc hDc hFc⟩ rfl rfl hl.1 rfl (lv_room (Nat.le_of_ble_eq_true rfl)) dL_setWeight_5 ⟨Nat.le_of_ble_eq_true rfl, Nat.le_of_ble_eq_true rfl⟩) hS (fun q _ h => hFc q h) hFc (fun q _ h => hFc q h) (fun E ce q9 u t H locs ht hvm hw hB hz1 hk1 hS hce hcv hcl => ?_) (fun r_9 u t H locs ht hvm hw hB hz1 hk1 hS => ?_)
  · rcases hB with ⟨hE, hP1, hD1⟩
    subst hE
    rw [ht] at hP1
    obtain ⟨hP, hD⟩ := va_join (wr := []) (w1 := []) hP hD [0, 1] [] rfl rfl (by decide) (by decide) hk1 hFc hP1 hD1
    have hP : va_P (dC, dI) vwCl [] H := hP
    have hD : va_D A [] := hD
    clear hPc hDc hFc hP1 hD1 hk1 hz1 ht hvm
    refine vx_catch (E := "java/lang/IndexOutOfBoundsException") (name := "java/lang/IndexOutOfBoundsException") hown [] ⟨0, 10, 13, 23⟩ [⟨0, 10, 17, 13⟩] (htab.trans rfl) (fun _ h => absurd h List.not_mem_nil) (by decide) (by decide) (hts (.classLink RL 23 "java/lang/IndexOutOfBoundsException") (by decide +kernel)) (xBad_use hG.2.2.2.1 _ (by decide +kernel)) hce hcv hcl ?_
    refine lv_astore (lv' := [(4, .ref q9), (0, .ref a1), (1, .int p1), (2, .int p2), (3, .ref a2)]) hx hb dL_setWeight_13 hl (by decide) rfl (fun ls hl => ?_)
    refine lv_iconst (v := 1) hx hb dL_setWeight_15 (by decide) ?_
    have hP9 := hP.sub (ws' := []) [] rfl
    have hD9 := hD.sub (ws' := []) [] (by decide) rfl
    exact W.iret (v := 1) hx hb hr (fun t ht hW => ⟨⟨_, _, rfl, rfl, ⟨rfl, by rw [ht]; exact hP9, hD9⟩⟩, hS.F ht⟩) hS.2.2 dL_setWeight_16
  · exact absurd hB id
set_option maxHeartbeats 4000000 in
set_option maxRecDepth 100000 in
theorem xcX11_turn (l : Launch) (hst : l.stackTraces = false) (dC : Nat → ClassId) (dI : Nat → Nat → Nat) (T : Nat → ClassId) (a1 : Nat) (a2 : Nat) (a3 : Nat) (a4 : Nat) (a5 : Nat) (a6 : Nat) (a7 : Nat) (a8 : Nat) (a9 : Nat) (a10 : Nat) (a11 : Nat) (a12 : Nat) (a13 : Nat) (a14 : Nat) (a15 : Nat) (a16 : Nat) (sz : Nat) (p1 : Int32) (p2 : Int32) (p3 : Int32) : vx_Met l yX11_turn wsX11_turn ({ frames := 7, cells := 1, slots := 6, locals := 103 } : Room) (va_Pc [.ref a1, .int p1, .int p2, .int p3] (fun U => xB dC dI T [(a1, .inr (16, [.ref a2, .ref a3, .ref a4, .ref a5, .ref a6, .ref a7, .ref a8, .ref a9, .ref a10, .ref a11])), (a2, .inr (10, [.ref a12, .ref a13, .ref a14, .ref a15, .ref a16, .int 0, .int 0]))] sz U)) (va_Qi (fun (r u : Int32) => r = u) (fun (u : Int32) (t : State) => False) (va_A [(a1, .inr (16, [.ref a2, .ref a3, .ref a4, .ref a5, .ref a6, .ref a7, .ref a8, .ref a9, .ref a10, .ref a11])), (a2, .inr (10, [.ref a12, .ref a13, .ref a14, .ref a15, .ref a16, .int 0, .int 0]))] sz)) (vx_X (fun _ : Unit => True) (fun (E : String) (_ : Unit) (t : State) => E = "java/lang/IndexOutOfBoundsException" ∧ xE dC dI [] (va_A [(a1, .inr (16, [.ref a2, .ref a3, .ref a4, .ref a5, .ref a6, .ref a7, .ref a8, .ref a9, .ref a10, .ref a11])), (a2, .inr (10, [.ref a12, .ref a13, .ref a14, .ref a15, .ref a16, .int 0, .int 0]))] sz) t) (va_A [(a1, .inr (16, [.ref a2, .ref a3, .ref a4, .ref a5, .ref a6, .ref a7, .ref a8, .ref a9, .ref a10, .ref a11])), (a2, .inr (10, [.ref a12, .ref a13, .ref a14, .ref a15, .ref a16, .int 0, .int 0]))] sz)) 1 6 (va_A [(a1, .inr (16, [.ref a2, .ref a3, .ref a4, .ref a5, .ref a6, .ref a7, .ref a8, .ref a9, .ref a10, .ref a11])), (a2, .inr (10, [.ref a12, .ref a13, .ref a14, .ref a15, .ref a16, .int 0, .int 0]))] sz) := by
  refine vx_ofW (cc := cX11_turn) (maxL := 4) (ret := (some .int)) (by decide +kernel) rfl ?_
  intro p e s m args below meth c s₁ B hml hex hv
  obtain ⟨rfl, hsz, hP, hK, hD0, hG⟩ := hv
  have hx := B.exec
  have hb := B.bytes
  have hr := B.returns
  have hts := atoms_spec (ws := wsX11_turn) B.pre
  have hown : s.vm.findClass RX11 = some m.cls := findClass_of_methodNamed B.named
  have hlocks := B.notSynchronized
  subst hsz
  have hD := hD0.self (sz := s.heap.size)
  generalize hAe : va_A [(a1, .inr (16, [.ref a2, .ref a3, .ref a4, .ref a5, .ref a6, .ref a7, .ref a8, .ref a9, .ref a10, .ref a11])), (a2, .inr (10, [.ref a12, .ref a13, .ref a14, .ref a15, .ref a16, .int 0, .int 0]))] s.heap.size = A at hD hG ⊢
  have hA : ∀ q : Nat, s.heap.size ≤ q → A q := fun q h => by rw [← hAe]; exact Or.inr h
  have hS : va_S A s.heap s.heap [] := va_S.rf
  have hl := lv_entry ([.ref a1, .int p1, .int p2, .int p3]) (n := 4) (Nat.le_of_ble_eq_true rfl)
  rw [lg_entry_eq]
  generalize (lg_sl ([.ref a1, .int p1, .int p2, .int p3]) ++ List.replicate (4 - (lg_sl ([.ref a1, .int p1, .int p2, .int p3])).length) Slot.unset).toArray = ls at hl ⊢
  have hl : lv_has ls 4 [(0, .ref a1), (1, .int p1), (2, .int p2), (3, .int p3)] := hl
  refine lv_aload_n hx hb dX11_turn_0 rfl (lv_at hl 0 rfl) ?_
  refine lv_iload_n hx hb dX11_turn_1 rfl (lv_at hl 1 rfl) ?_
  have hPc := hP.sub (ws' := [(a1, .inr (16, [.ref a2, .ref a3, .ref a4, .ref a5, .ref a6, .ref a7, .ref a8, .ref a9, .ref a10, .ref a11])), (a2, .inr (10, [.ref a12, .ref a13, .ref a14, .ref a15, .ref a16, .int 0, .int 0]))]) [0, 1] rfl
  have hDc := hD.sub (ws' := [(a1, .inr (16, [.ref a2, .ref a3, .ref a4, .ref a5, .ref a6, .ref a7, .ref a8, .ref a9, .ref a10, .ref a11])), (a2, .inr (10, [.ref a12, .ref a13, .ref a14, .ref a15, .ref a16, .int 0, .int 0]))]) [0, 1] (by decide) rfl
  have hFc := va_free (wc := [(a1, .inr (16, [.ref a2, .ref a3, .ref a4, .ref a5, .ref a6, .ref a7, .ref a8, .ref a9, .ref a10, .ref a11])), (a2, .inr (10, [.ref a12, .ref a13, .ref a14, .ref a15, .ref a16, .int 0, .int 0]))]) hD hS hA [0, 1] rfl
  refine vx_callv (vx_runV (As := [.int p1]) (rest := []) ⟨hx, hb, hml, hown, hts⟩ (xcX11_needPoint l hst dC dI T a1 a2 a3 a4 a5 a6 a7 a8 a9 a10 a11 a12 a13 a14 a15 a16 s.heap.size p1) (cwV 1 hts gX11_turn_X11_needPoint rfl rfl rfl (by decide +kernel) ⟨Nat.le_of_ble_eq_true rfl, Nat.le_of_ble_eq_true rfl⟩) ⟨xBlind, va_recv hK hPc (ci := 16) (q0 := 0) rfl rfl, xCall hK hG hS hPc hDc hFc⟩ rfl rfl hl.1 rfl (lv_room (Nat.le_of_ble_eq_true rfl)) dX11_turn_2 ⟨Nat.le_of_ble_eq_true rfl, Nat.le_of_ble_eq_true rfl⟩) hS (fun q _ h => hFc q h) hFc (fun q _ h => hFc q h) (fun E ce q9 u t H locs ht hvm hw hB hz1 hk1 hS hce hcv hcl => ?_) (fun u t H locs ht hvm hw hB hz1 hk1 hS => ?_)
  · rcases hB with ⟨hE, hP1, hD1⟩
    subst hE
    rw [ht] at hP1
    obtain ⟨hP, hD⟩ := va_join (wr := []) (w1 := [(a1, .inr (16, [.ref a2, .ref a3, .ref a4, .ref a5, .ref a6, .ref a7, .ref a8, .ref a9, .ref a10, .ref a11])), (a2, .inr (10, [.ref a12, .ref a13, .ref a14, .ref a15, .ref a16, .int 0, .int 0]))]) hP hD [0, 1] [] rfl rfl (by decide) (by decide) hk1 hFc hP1 hD1
    have hP : va_P (dC, dI) vwCl [(a1, .inr (16, [.ref a2, .ref a3, .ref a4, .ref a5, .ref a6, .ref a7, .ref a8, .ref a9, .ref a10, .ref a11])), (a2, .inr (10, [.ref a12, .ref a13, .ref a14, .ref a15, .ref a16, .int 0, .int 0]))] H := hP
    have hD : va_D A [(a1, .inr (16, [.ref a2, .ref a3, .ref a4, .ref a5, .ref a6, .ref a7, .ref a8, .ref a9, .ref a10, .ref a11])), (a2, .inr (10, [.ref a12, .ref a13, .ref a14, .ref a15, .ref a16, .int 0, .int 0]))] := hD
    clear hPc hDc hFc hP1 hD1 hk1 hz1 ht hvm
    have hP9 := hP.sub (ws' := []) [] rfl
    have hD9 := hD.sub (ws' := []) [] (by decide) rfl
    exact vx_out (fun x hx => absurd (hex x hx) id) hlocks hce hcv hcl (fun t ht _ => ⟨(), trivial, ⟨rfl, by rw [ht]; exact hP9, hD9⟩, hS.F ht⟩) hS.2.2 (Nat.le_of_ble_eq_true rfl) (Nat.le_of_ble_eq_true rfl)
  · exact absurd hB id
set_option maxHeartbeats 4000000 in
set_option maxRecDepth 100000 in
theorem xcL_turn (l : Launch) (hst : l.stackTraces = false) (dC : Nat → ClassId) (dI : Nat → Nat → Nat) (T : Nat → ClassId) (a1 : Nat) (a2 : Nat) (a3 : Nat) (a4 : Nat) (a5 : Nat) (a6 : Nat) (a7 : Nat) (a8 : Nat) (a9 : Nat) (a10 : Nat) (a11 : Nat) (a12 : Nat) (a13 : Nat) (a14 : Nat) (a15 : Nat) (a16 : Nat) (a17 : Nat) (sz : Nat) (p1 : Int32) (p2 : Int32) (p3 : Int32) : Met l yL_turn wsL_turn ({ frames := 8, cells := 1, slots := 6, locals := 126 } : Room) (va_Pc [.ref a1, .int p1, .int p2, .int p3, .ref a2] (fun U => xB dC dI T [(a1, .inr (16, [.ref a3, .ref a4, .ref a5, .ref a6, .ref a7, .ref a8, .ref a9, .ref a10, .ref a11, .ref a12])), (a3, .inr (10, [.ref a13, .ref a14, .ref a15, .ref a16, .ref a17, .int 0, .int 0]))] sz U)) (va_Qi (fun (r u : Int32) => r = u) (fun (u : Int32) (t : State) => 1 = u ∧ xE dC dI [] (va_A [(a1, .inr (16, [.ref a3, .ref a4, .ref a5, .ref a6, .ref a7, .ref a8, .ref a9, .ref a10, .ref a11, .ref a12])), (a3, .inr (10, [.ref a13, .ref a14, .ref a15, .ref a16, .ref a17, .int 0, .int 0]))] sz) t) (va_A [(a1, .inr (16, [.ref a3, .ref a4, .ref a5, .ref a6, .ref a7, .ref a8, .ref a9, .ref a10, .ref a11, .ref a12])), (a3, .inr (10, [.ref a13, .ref a14, .ref a15, .ref a16, .ref a17, .int 0, .int 0]))] sz)) 1 6 (va_A [(a1, .inr (16, [.ref a3, .ref a4, .ref a5, .ref a6, .ref a7, .ref a8, .ref a9, .ref a10, .ref a11, .ref a12])), (a3, .inr (10, [.ref a13, .ref a14, .ref a15, .ref a16, .ref a17, .int 0, .int 0]))] sz) := by
  refine va_MetW (cc := cL_turn) (maxL := 6) (ret := (some .int)) (hh := [(0, 12, 15, 23)]) (by decide +kernel) rfl ?_
  intro p e s m args below meth c s₁ B hml hv
  obtain ⟨rfl, hsz, hP, hK, hD0, hG⟩ := hv
  have hx := B.exec
  have hb := B.bytes
  have hr := B.returns
  have hts := atoms_spec (ws := wsL_turn) B.pre
  have hown : s.vm.findClass RL = some m.cls := findClass_of_methodNamed B.named
  have hlocks := B.notSynchronized
  have htab := vx_table (x := yL_turn) B (hts (.codeWith yL_turn cL_turn 6 (some .int) [(0, 12, 15, 23)]) (by decide +kernel))
  subst hsz
  have hD := hD0.self (sz := s.heap.size)
  generalize hAe : va_A [(a1, .inr (16, [.ref a3, .ref a4, .ref a5, .ref a6, .ref a7, .ref a8, .ref a9, .ref a10, .ref a11, .ref a12])), (a3, .inr (10, [.ref a13, .ref a14, .ref a15, .ref a16, .ref a17, .int 0, .int 0]))] s.heap.size = A at hD hG ⊢
  have hA : ∀ q : Nat, s.heap.size ≤ q → A q := fun q h => by rw [← hAe]; exact Or.inr h
  have hS : va_S A s.heap s.heap [] := va_S.rf
  have hl := lv_entry ([.ref a1, .int p1, .int p2, .int p3, .ref a2]) (n := 6) (Nat.le_of_ble_eq_true rfl)
  rw [lg_entry_eq]
  generalize (lg_sl ([.ref a1, .int p1, .int p2, .int p3, .ref a2]) ++ List.replicate (6 - (lg_sl ([.ref a1, .int p1, .int p2, .int p3, .ref a2])).length) Slot.unset).toArray = ls at hl ⊢
  have hl : lv_has ls 6 [(0, .ref a1), (1, .int p1), (2, .int p2), (3, .int p3), (4, .ref a2)] := hl
  refine lv_aload hx hb dL_turn_0 (lv_at hl 4 rfl) ?_
  refine lv_iconst (v := 0) hx hb dL_turn_2 (by decide) ?_
  refine lv_aload_n hx hb dL_turn_3 rfl (lv_at hl 0 rfl) ?_
  refine lv_iload_n hx hb dL_turn_4 rfl (lv_at hl 1 rfl) ?_
  refine lv_iload_n hx hb dL_turn_5 rfl (lv_at hl 2 rfl) ?_
  refine lv_iload_n hx hb dL_turn_6 rfl (lv_at hl 3 rfl) ?_
  have hPc := hP.sub (ws' := [(a1, .inr (16, [.ref a3, .ref a4, .ref a5, .ref a6, .ref a7, .ref a8, .ref a9, .ref a10, .ref a11, .ref a12])), (a3, .inr (10, [.ref a13, .ref a14, .ref a15, .ref a16, .ref a17, .int 0, .int 0]))]) [0, 1] rfl
  have hDc := hD.sub (ws' := [(a1, .inr (16, [.ref a3, .ref a4, .ref a5, .ref a6, .ref a7, .ref a8, .ref a9, .ref a10, .ref a11, .ref a12])), (a3, .inr (10, [.ref a13, .ref a14, .ref a15, .ref a16, .ref a17, .int 0, .int 0]))]) [0, 1] (by decide) rfl
  have hFc := va_free (wc := [(a1, .inr (16, [.ref a3, .ref a4, .ref a5, .ref a6, .ref a7, .ref a8, .ref a9, .ref a10, .ref a11, .ref a12])), (a3, .inr (10, [.ref a13, .ref a14, .ref a15, .ref a16, .ref a17, .int 0, .int 0]))]) hD hS hA [0, 1] rfl
  refine vx_calli (vx_runV (As := [.int p1, .int p2, .int p3]) (rest := [.int 0, .ref a2]) ⟨hx, hb, hml, hown, hts⟩ (xcX11_turn l hst dC dI T a1 a3 a4 a5 a6 a7 a8 a9 a10 a11 a12 a13 a14 a15 a16 a17 s.heap.size p1 p2 p3) (cwV 3 hts gL_turn_X11_turn rfl rfl rfl (by decide +kernel) ⟨Nat.le_of_ble_eq_true rfl, Nat.le_of_ble_eq_true rfl⟩) ⟨xBlind, va_recv hK hPc (ci := 16) (q0 := 0) rfl rfl, xCall hK hG hS hPc hDc hFc⟩ rfl rfl hl.1 rfl (lv_room (Nat.le_of_ble_eq_true rfl)) dL_turn_7 ⟨Nat.le_of_ble_eq_true rfl, Nat.le_of_ble_eq_true rfl⟩) hS (fun q _ h => hFc q h) hFc (fun q _ h => hFc q h) (fun E ce q9 u t H locs ht hvm hw hB hz1 hk1 hS hce hcv hcl => ?_) (fun r_9 u t H locs ht hvm hw hB hz1 hk1 hS => ?_)
  · rcases hB with ⟨hE, hP1, hD1⟩
    subst hE
    rw [ht] at hP1
    obtain ⟨hP, hD⟩ := va_join (wr := []) (w1 := []) hP hD [0, 1] [] rfl rfl (by decide) (by decide) hk1 hFc hP1 hD1
    have hP : va_P (dC, dI) vwCl [] H := hP
    have hD : va_D A [] := hD
    clear hPc hDc hFc hP1 hD1 hk1 hz1 ht hvm
    refine vx_catch (E := "java/lang/IndexOutOfBoundsException") (name := "java/lang/IndexOutOfBoundsException") hown [] ⟨0, 12, 15, 23⟩ [] (htab.trans rfl) (fun _ h => absurd h List.not_mem_nil) (by decide) (by decide) (hts (.classLink RL 23 "java/lang/IndexOutOfBoundsException") (by decide +kernel)) (xBad_use hG.2.2.2.1 _ (by decide +kernel)) hce hcv hcl ?_
    refine lv_astore (lv' := [(5, .ref q9), (0, .ref a1), (1, .int p1), (2, .int p2), (3, .int p3), (4, .ref a2)]) hx hb dL_turn_15 hl (by decide) rfl (fun ls hl => ?_)
    refine lv_iconst (v := 1) hx hb dL_turn_17 (by decide) ?_
    have hP9 := hP.sub (ws' := []) [] rfl
    have hD9 := hD.sub (ws' := []) [] (by decide) rfl
    exact W.iret (v := 1) hx hb hr (fun t ht hW => ⟨⟨_, _, rfl, rfl, ⟨rfl, by rw [ht]; exact hP9, hD9⟩⟩, hS.F ht⟩) hS.2.2 dL_turn_18
  · exact absurd hB id
set_option maxHeartbeats 4000000 in
set_option maxRecDepth 100000 in
theorem xcX11_within (l : Launch) (hst : l.stackTraces = false) (dC : Nat → ClassId) (dI : Nat → Nat → Nat) (T : Nat → ClassId) (a1 : Nat) (a2 : Nat) (a3 : Nat) (a4 : Nat) (a5 : Nat) (a6 : Nat) (a7 : Nat) (a8 : Nat) (a9 : Nat) (a10 : Nat) (a11 : Nat) (a12 : Nat) (a13 : Nat) (a14 : Nat) (a15 : Nat) (a16 : Nat) (sz : Nat) (p1 : Int32) (p2 : Int32) (p3 : Int32) : vx_Met l yX11_within wsX11_within ({ frames := 8, cells := 3, slots := 18, locals := 126 } : Room) (va_Pc [.ref a1, .int p1, .int p2, .int p3] (fun U => xB dC dI T [(a1, .inr (16, [.ref a2, .ref a3, .ref a4, .ref a5, .ref a6, .ref a7, .ref a8, .ref a9, .ref a10, .ref a11])), (a2, .inr (10, [.ref a12, .ref a13, .ref a14, .ref a15, .ref a16, .int 0, .int 0]))] sz U)) (va_Qi (fun (r u : Int32) => r = u) (fun (u : Int32) (t : State) => ((((¬ (p1.toInt < -999)) ∧ (p1.toInt ≤ 999)) ∧ ((¬ (p2.toInt < -999)) ∧ (p2.toInt ≤ 999))) ∧ ((¬ (p3.toInt < 0)) ∧ (p3.toInt ≤ ((9999999) : Int32).toInt))) ∧ 0 = u ∧ xE dC dI [] (va_A [(a1, .inr (16, [.ref a2, .ref a3, .ref a4, .ref a5, .ref a6, .ref a7, .ref a8, .ref a9, .ref a10, .ref a11])), (a2, .inr (10, [.ref a12, .ref a13, .ref a14, .ref a15, .ref a16, .int 0, .int 0]))] sz) t) (va_A [(a1, .inr (16, [.ref a2, .ref a3, .ref a4, .ref a5, .ref a6, .ref a7, .ref a8, .ref a9, .ref a10, .ref a11])), (a2, .inr (10, [.ref a12, .ref a13, .ref a14, .ref a15, .ref a16, .int 0, .int 0]))] sz)) (vx_X (fun _ : Unit => True) (fun (E : String) (_ : Unit) (t : State) => ((((p1.toInt < -999) ∨ ((¬ (p1.toInt < -999)) ∧ (¬ (p1.toInt ≤ 999)))) ∨ (((¬ (p1.toInt < -999)) ∧ (p1.toInt ≤ 999)) ∧ ((p2.toInt < -999) ∨ ((¬ (p2.toInt < -999)) ∧ (¬ (p2.toInt ≤ 999)))))) ∨ ((((¬ (p1.toInt < -999)) ∧ (p1.toInt ≤ 999)) ∧ ((¬ (p2.toInt < -999)) ∧ (p2.toInt ≤ 999))) ∧ ((p3.toInt < 0) ∨ ((¬ (p3.toInt < 0)) ∧ (¬ (p3.toInt ≤ ((9999999) : Int32).toInt)))))) ∧ E = "java/lang/IllegalArgumentException" ∧ xE dC dI [] (va_A [(a1, .inr (16, [.ref a2, .ref a3, .ref a4, .ref a5, .ref a6, .ref a7, .ref a8, .ref a9, .ref a10, .ref a11])), (a2, .inr (10, [.ref a12, .ref a13, .ref a14, .ref a15, .ref a16, .int 0, .int 0]))] sz) t) (va_A [(a1, .inr (16, [.ref a2, .ref a3, .ref a4, .ref a5, .ref a6, .ref a7, .ref a8, .ref a9, .ref a10, .ref a11])), (a2, .inr (10, [.ref a12, .ref a13, .ref a14, .ref a15, .ref a16, .int 0, .int 0]))] sz)) 3 18 (va_A [(a1, .inr (16, [.ref a2, .ref a3, .ref a4, .ref a5, .ref a6, .ref a7, .ref a8, .ref a9, .ref a10, .ref a11])), (a2, .inr (10, [.ref a12, .ref a13, .ref a14, .ref a15, .ref a16, .int 0, .int 0]))] sz) := by
  refine vx_ofW (cc := cX11_within) (maxL := 6) (ret := (some .int)) (by decide +kernel) rfl ?_
  intro p e s m args below meth c s₁ B hml hex hv
  obtain ⟨rfl, hsz, hP, hK, hD0, hG⟩ := hv
  have hx := B.exec
  have hb := B.bytes
  have hr := B.returns
  have hts := atoms_spec (ws := wsX11_within) B.pre
  have hown : s.vm.findClass RX11 = some m.cls := findClass_of_methodNamed B.named
  have hlocks := B.notSynchronized
  have hin_X11 : ∀ w ∈ wsX110, w ∈ wsX11_within := by decide +kernel
  subst hsz
  have hD := hD0.self (sz := s.heap.size)
  generalize hAe : va_A [(a1, .inr (16, [.ref a2, .ref a3, .ref a4, .ref a5, .ref a6, .ref a7, .ref a8, .ref a9, .ref a10, .ref a11])), (a2, .inr (10, [.ref a12, .ref a13, .ref a14, .ref a15, .ref a16, .int 0, .int 0]))] s.heap.size = A at hD hG ⊢
  have hA : ∀ q : Nat, s.heap.size ≤ q → A q := fun q h => by rw [← hAe]; exact Or.inr h
  have hS : va_S A s.heap s.heap [] := va_S.rf
  have hl := lv_entry ([.ref a1, .int p1, .int p2, .int p3]) (n := 6) (Nat.le_of_ble_eq_true rfl)
  rw [lg_entry_eq]
  generalize (lg_sl ([.ref a1, .int p1, .int p2, .int p3]) ++ List.replicate (6 - (lg_sl ([.ref a1, .int p1, .int p2, .int p3])).length) Slot.unset).toArray = ls at hl ⊢
  have hl : lv_has ls 6 [(0, .ref a1), (1, .int p1), (2, .int p2), (3, .int p3)] := hl
  refine lv_iload_n hx hb dX11_within_0 rfl (lv_at hl 1 rfl) ?_
  refine lv_iload_n hx hb dX11_within_1 rfl (lv_at hl 2 rfl) ?_
  refine lv_sipush (v := 999) hx hb dX11_within_2 (by decide) ?_
  have hPc := hP.sub (ws' := []) [] rfl
  have hDc := hD.sub (ws' := []) [] (by decide) rfl
  have hFc := va_free (wc := []) hD hS hA [] rfl
  refine vx_callv (vx_runS (As := [.int p1, .int p2, .int 999]) (rest := []) ⟨hx, hb, hml, hown, hts⟩ (xcX11_needBoth_v2 l hst dC dI T s.heap.size p1 p2) (cwS 3 hts gX11_within_X11_needBoth rfl rfl rfl (by decide +kernel) ⟨Nat.le_of_ble_eq_true rfl, Nat.le_of_ble_eq_true rfl⟩) ⟨xBlind, xCall hK hG hS hPc hDc hFc⟩ rfl rfl hl.1 rfl (lv_room (Nat.le_of_ble_eq_true rfl)) dX11_within_5 ⟨Nat.le_of_ble_eq_true rfl, Nat.le_of_ble_eq_true rfl⟩) hS (fun q _ h => hFc q h) hFc (fun q _ h => hFc q h) (fun E ce q9 u t H locs ht hvm hw hB hz1 hk1 hS hce hcv hcl => ?_) (fun u t H locs ht hvm hw hB hz1 hk1 hS => ?_)
  · rcases hB with ⟨c_1, hE, hP1, hD1⟩
    subst hE
    rw [ht] at hP1
    obtain ⟨hP, hD⟩ := va_join (wr := [(a1, .inr (16, [.ref a2, .ref a3, .ref a4, .ref a5, .ref a6, .ref a7, .ref a8, .ref a9, .ref a10, .ref a11])), (a2, .inr (10, [.ref a12, .ref a13, .ref a14, .ref a15, .ref a16, .int 0, .int 0]))]) (w1 := []) hP hD [] [0, 1] rfl rfl (by decide) (by decide) hk1 hFc hP1 hD1
    have hP : va_P (dC, dI) vwCl [(a1, .inr (16, [.ref a2, .ref a3, .ref a4, .ref a5, .ref a6, .ref a7, .ref a8, .ref a9, .ref a10, .ref a11])), (a2, .inr (10, [.ref a12, .ref a13, .ref a14, .ref a15, .ref a16, .int 0, .int 0]))] H := hP
    have hD : va_D A [(a1, .inr (16, [.ref a2, .ref a3, .ref a4, .ref a5, .ref a6, .ref a7, .ref a8, .ref a9, .ref a10, .ref a11])), (a2, .inr (10, [.ref a12, .ref a13, .ref a14, .ref a15, .ref a16, .int 0, .int 0]))] := hD
    clear hPc hDc hFc hP1 hD1 hk1 hz1 ht hvm
    have hP9 := hP.sub (ws' := []) [] rfl
    have hD9 := hD.sub (ws' := []) [] (by decide) rfl
    exact vx_out (fun x hx => absurd (hex x hx) id) hlocks hce hcv hcl (fun t ht _ => ⟨(), trivial, ⟨(Or.inl c_1), rfl, by rw [ht]; exact hP9, hD9⟩, hS.F ht⟩) hS.2.2 (Nat.le_of_ble_eq_true rfl) (Nat.le_of_ble_eq_true rfl)
  · rcases hB with ⟨c_2, hP1, hD1⟩
    rw [ht] at hP1
    obtain ⟨hP, hD⟩ := va_join (wr := [(a1, .inr (16, [.ref a2, .ref a3, .ref a4, .ref a5, .ref a6, .ref a7, .ref a8, .ref a9, .ref a10, .ref a11])), (a2, .inr (10, [.ref a12, .ref a13, .ref a14, .ref a15, .ref a16, .int 0, .int 0]))]) (w1 := []) hP hD [] [0, 1] rfl rfl (by decide) (by decide) hk1 hFc hP1 hD1
    have hP : va_P (dC, dI) vwCl [(a1, .inr (16, [.ref a2, .ref a3, .ref a4, .ref a5, .ref a6, .ref a7, .ref a8, .ref a9, .ref a10, .ref a11])), (a2, .inr (10, [.ref a12, .ref a13, .ref a14, .ref a15, .ref a16, .int 0, .int 0]))] H := hP
    have hD : va_D A [(a1, .inr (16, [.ref a2, .ref a3, .ref a4, .ref a5, .ref a6, .ref a7, .ref a8, .ref a9, .ref a10, .ref a11])), (a2, .inr (10, [.ref a12, .ref a13, .ref a14, .ref a15, .ref a16, .int 0, .int 0]))] := hD
    clear hPc hDc hFc hP1 hD1 hk1 hz1 ht hvm
    refine lv_iload_n hx hb dX11_within_8 rfl (lv_at hl 3 rfl) ?_
    refine lv_iconst (v := 0) hx hb dX11_within_9 (by decide) ?_
    refine lv_ldc (v := 9999999) hx hb hown (hts (.constant RX11 172 9999999) (by decide +kernel)) dX11_within_10 ?_
    have hPc := hP.sub (ws' := []) [] rfl
    have hDc := hD.sub (ws' := []) [] (by decide) rfl
    have hFc := va_free (wc := []) hD hS hA [] rfl
    refine vx_callv (vx_runS (As := [.int p3, .int 0, .int 9999999]) (rest := []) ⟨hx, hb, hml, hown, hts⟩ (xcX11_needRange_v3 l hst dC dI T H.size p3 9999999) (cwS 3 hts gX11_within_X11_needRange rfl rfl rfl (by decide +kernel) ⟨Nat.le_of_ble_eq_true rfl, Nat.le_of_ble_eq_true rfl⟩) ⟨xBlind, xCall hK hG hS hPc hDc hFc⟩ rfl rfl hl.1 rfl (lv_room (Nat.le_of_ble_eq_true rfl)) dX11_within_12 ⟨Nat.le_of_ble_eq_true rfl, Nat.le_of_ble_eq_true rfl⟩) hS (fun q _ h => hFc q h) hFc (fun q _ h => hFc q h) (fun E ce q9 u t H locs ht hvm hw hB hz1 hk1 hS hce hcv hcl => ?_) (fun u t H locs ht hvm hw hB hz1 hk1 hS => ?_)
    · rcases hB with ⟨c_3, hE, hP1, hD1⟩
      have hz_4 : ((9999999) : Int32).toInt = 9999999 := by decide +kernel
      subst hE
      rw [ht] at hP1
      obtain ⟨hP, hD⟩ := va_join (wr := [(a1, .inr (16, [.ref a2, .ref a3, .ref a4, .ref a5, .ref a6, .ref a7, .ref a8, .ref a9, .ref a10, .ref a11])), (a2, .inr (10, [.ref a12, .ref a13, .ref a14, .ref a15, .ref a16, .int 0, .int 0]))]) (w1 := []) hP hD [] [0, 1] rfl rfl (by decide) (by decide) hk1 hFc hP1 hD1
      have hP : va_P (dC, dI) vwCl [(a1, .inr (16, [.ref a2, .ref a3, .ref a4, .ref a5, .ref a6, .ref a7, .ref a8, .ref a9, .ref a10, .ref a11])), (a2, .inr (10, [.ref a12, .ref a13, .ref a14, .ref a15, .ref a16, .int 0, .int 0]))] H := hP
      have hD : va_D A [(a1, .inr (16, [.ref a2, .ref a3, .ref a4, .ref a5, .ref a6, .ref a7, .ref a8, .ref a9, .ref a10, .ref a11])), (a2, .inr (10, [.ref a12, .ref a13, .ref a14, .ref a15, .ref a16, .int 0, .int 0]))] := hD
      clear hPc hDc hFc hP1 hD1 hk1 hz1 ht hvm
      have hP9 := hP.sub (ws' := []) [] rfl
      have hD9 := hD.sub (ws' := []) [] (by decide) rfl
      exact vx_out (fun x hx => absurd (hex x hx) id) hlocks hce hcv hcl (fun t ht _ => ⟨(), trivial, ⟨(Or.inr (⟨c_2, c_3⟩)), rfl, by rw [ht]; exact hP9, hD9⟩, hS.F ht⟩) hS.2.2 (Nat.le_of_ble_eq_true rfl) (Nat.le_of_ble_eq_true rfl)
    · rcases hB with ⟨c_5, hP1, hD1⟩
      have hz_6 : ((9999999) : Int32).toInt = 9999999 := by decide +kernel
      rw [ht] at hP1
      obtain ⟨hP, hD⟩ := va_join (wr := [(a1, .inr (16, [.ref a2, .ref a3, .ref a4, .ref a5, .ref a6, .ref a7, .ref a8, .ref a9, .ref a10, .ref a11])), (a2, .inr (10, [.ref a12, .ref a13, .ref a14, .ref a15, .ref a16, .int 0, .int 0]))]) (w1 := []) hP hD [] [0, 1] rfl rfl (by decide) (by decide) hk1 hFc hP1 hD1
      have hP : va_P (dC, dI) vwCl [(a1, .inr (16, [.ref a2, .ref a3, .ref a4, .ref a5, .ref a6, .ref a7, .ref a8, .ref a9, .ref a10, .ref a11])), (a2, .inr (10, [.ref a12, .ref a13, .ref a14, .ref a15, .ref a16, .int 0, .int 0]))] H := hP
      have hD : va_D A [(a1, .inr (16, [.ref a2, .ref a3, .ref a4, .ref a5, .ref a6, .ref a7, .ref a8, .ref a9, .ref a10, .ref a11])), (a2, .inr (10, [.ref a12, .ref a13, .ref a14, .ref a15, .ref a16, .int 0, .int 0]))] := hD
      clear hPc hDc hFc hP1 hD1 hk1 hz1 ht hvm
      refine lv_iconst (v := 0) hx hb dX11_within_15 (by decide) ?_
      refine lv_istore (lv' := [(4, .int 0), (0, .ref a1), (1, .int p1), (2, .int p2), (3, .int p3)]) hx hb dX11_within_16 hl (by decide) rfl (fun ls hl => ?_)
      refine lv_iconst (v := 0) hx hb dX11_within_18 (by decide) ?_
      refine lv_istore (lv' := [(5, .int 0), (4, .int 0), (0, .ref a1), (1, .int p1), (2, .int p2), (3, .int p3)]) hx hb dX11_within_19 hl (by decide) rfl (fun ls hl => ?_)
      refine xLoop (P := fun i_k_7 H locs ls => va_P (dC, dI) vwCl [(a1, .inr (16, [.ref a2, .ref a3, .ref a4, .ref a5, .ref a6, .ref a7, .ref a8, .ref a9, .ref a10, .ref a11])), (a2, .inr (10, [.ref a12, .ref a13, .ref a14, .ref a15, .ref a16, .int 0, .int 0]))] H ∧ va_D A [(a1, .inr (16, [.ref a2, .ref a3, .ref a4, .ref a5, .ref a6, .ref a7, .ref a8, .ref a9, .ref a10, .ref a11])), (a2, .inr (10, [.ref a12, .ref a13, .ref a14, .ref a15, .ref a16, .int 0, .int 0]))] ∧ va_S A s.heap H locs ∧ lv_has ls 6 [(5, .int (nI i_k_7)), (4, .int 0), (0, .ref a1), (1, .int p1), (2, .int p2), (3, .int p3)]) (N := 12) (fun i_k_7 H locs ls hi_k_7 hI ih_k_7 => ?_) (0) _ _ _ (by omega) ⟨hP, hD, hS, lv_sub hl [0, 1, 2, 3, 4, 5] rfl⟩
      obtain ⟨hP, hD, hS, hl⟩ := hI
      refine lv_iload hx hb dX11_within_21 (lv_at hl 0 rfl) ?_
      refine lv_bipush (v := 12) hx hb dX11_within_23 (by decide) ?_
      have hz_9 : (nI i_k_7).toInt = ((i_k_7 : Nat) : Int) := nI_toInt (by omega)
      refine lv_icmp_ge (tgt := 66) hx hb dX11_within_25 (by decide) (fun c_8 => ?_) (fun c_8 => ?_)
      · have nc_8 : 12 ≤ (nI i_k_7).toInt := (xi_le (by decide +kernel) rfl).mp c_8
        refine lv_iload hx hb dX11_within_66 (lv_at hl 1 rfl) ?_
        refine vx_ret ?_
        have hP9 := hP.sub (ws' := []) [] rfl
        have hD9 := hD.sub (ws' := []) [] (by decide) rfl
        exact W.iret (v := 0) hx hb hr (fun t ht hW => ⟨⟨_, _, rfl, rfl, ⟨⟨c_2, c_5⟩, rfl, by rw [ht]; exact hP9, hD9⟩⟩, hS.F ht⟩) hS.2.2 dX11_within_68
      · have nc_8 : ¬ (12 ≤ (nI i_k_7).toInt) := mt (xi_le (by decide +kernel) rfl).mpr c_8
        refine lv_aload_n hx hb dX11_within_28 rfl (lv_at hl 2 rfl) ?_
        refine va_get (D := (dC, dI)) (ci := 16) (v := .ref a2) (C := RX11) (T := TX11) (N := 10) hx hb hts hin_X11 hown hK hP 0 rfl rfl 0 (by decide) (hts (.fieldLink RX11 12 "Nearestward" "ground" "LNearestward$Ground;") (by decide +kernel)) (fun _ h9 => h9) rfl dX11_within_29 ?_
        refine lv_iload hx hb dX11_within_32 (lv_at hl 0 rfl) ?_
        have hPc := hP.sub (ws' := [(a2, .inr (10, [.ref a12, .ref a13, .ref a14, .ref a15, .ref a16, .int 0, .int 0]))]) [1] rfl
        have hDc := hD.sub (ws' := [(a2, .inr (10, [.ref a12, .ref a13, .ref a14, .ref a15, .ref a16, .int 0, .int 0]))]) [1] (by decide) rfl
        have hFc := va_free (wc := [(a2, .inr (10, [.ref a12, .ref a13, .ref a14, .ref a15, .ref a16, .int 0, .int 0]))]) hD hS hA [1] rfl
        refine va_calli (va_runV (As := [.int (nI i_k_7)]) (rest := []) ⟨hx, hb, hml, hown, hts⟩ (xcX5_has l hst dC dI T a2 a12 a13 a14 a15 a16 H.size (nI i_k_7)) (cwV 1 hts gX11_within_X5_has rfl rfl rfl (by decide +kernel) ⟨Nat.le_of_ble_eq_true rfl, Nat.le_of_ble_eq_true rfl⟩) ⟨xBlind, va_recv hK hPc (ci := 10) (q0 := 0) rfl rfl, xCall hK hG hS hPc hDc hFc⟩ rfl rfl hl.1 rfl (lv_room (Nat.le_of_ble_eq_true rfl)) dX11_within_34 ⟨Nat.le_of_ble_eq_true rfl, Nat.le_of_ble_eq_true rfl⟩) hS (fun q _ h => hFc q h) hFc (fun r_9 u t H locs ht hvm hw hB hz1 hk1 hS => ?_)
        subst hw
        rcases hB with ⟨hr_9, hP1, hD1⟩
        rw [ht] at hP1
        subst hr_9
        obtain ⟨hP, hD⟩ := va_join (wr := [(a1, .inr (16, [.ref a2, .ref a3, .ref a4, .ref a5, .ref a6, .ref a7, .ref a8, .ref a9, .ref a10, .ref a11]))]) (w1 := [(a2, .inr (10, [.ref a12, .ref a13, .ref a14, .ref a15, .ref a16, .int 0, .int 0]))]) hP hD [1] [0] rfl rfl (by decide) (by decide) hk1 hFc hP1 hD1
        have hP : va_P (dC, dI) vwCl [(a1, .inr (16, [.ref a2, .ref a3, .ref a4, .ref a5, .ref a6, .ref a7, .ref a8, .ref a9, .ref a10, .ref a11])), (a2, .inr (10, [.ref a12, .ref a13, .ref a14, .ref a15, .ref a16, .int 0, .int 0]))] H := hP
        have hD : va_D A [(a1, .inr (16, [.ref a2, .ref a3, .ref a4, .ref a5, .ref a6, .ref a7, .ref a8, .ref a9, .ref a10, .ref a11])), (a2, .inr (10, [.ref a12, .ref a13, .ref a14, .ref a15, .ref a16, .int 0, .int 0]))] := hD
        clear hPc hDc hFc hP1 hD1 hk1 hz1 ht hvm
        refine lv_if_eq (tgt := 60) hx hb dX11_within_37 (by decide) (fun c_11 => ?_) (fun c_11 => absurd (by decide) c_11)
        refine lv_iinc (v := (nI (i_k_7 + 1))) (lv' := [(5, .int (nI (i_k_7 + 1))), (4, .int 0), (0, .ref a1), (1, .int p1), (2, .int p2), (3, .int p3)]) hx hb dX11_within_60 hl (k := 0) rfl (nI_1 _) (by decide) rfl (fun ls hl => ?_)
        refine lv_goto (tgt := 21) hx hb dX11_within_63 (by decide) ?_
        exact ih_k_7 _ _ _ (by omega) ⟨hP, hD, hS, lv_sub hl [0, 1, 2, 3, 4, 5] rfl⟩
set_option maxHeartbeats 4000000 in
set_option maxRecDepth 100000 in
theorem xcL_within (l : Launch) (hst : l.stackTraces = false) (dC : Nat → ClassId) (dI : Nat → Nat → Nat) (T : Nat → ClassId) (a1 : Nat) (a2 : Nat) (a3 : Nat) (a4 : Nat) (a5 : Nat) (a6 : Nat) (a7 : Nat) (a8 : Nat) (a9 : Nat) (a10 : Nat) (a11 : Nat) (a12 : Nat) (a13 : Nat) (a14 : Nat) (a15 : Nat) (a16 : Nat) (a17 : Nat) (sz : Nat) (p1 : Int32) (p2 : Int32) (p3 : Int32) : Met l yL_within wsL_within ({ frames := 9, cells := 3, slots := 18, locals := 151 } : Room) (va_Pc [.ref a1, .int p1, .int p2, .int p3, .ref a2] (fun U => xB dC dI T [(a1, .inr (16, [.ref a3, .ref a4, .ref a5, .ref a6, .ref a7, .ref a8, .ref a9, .ref a10, .ref a11, .ref a12])), (a3, .inr (10, [.ref a13, .ref a14, .ref a15, .ref a16, .ref a17, .int 0, .int 0])), (a2, .inl (T 5, 1, .inr (.inl (fun _ => 0))))] sz U)) (va_Qi (fun (r u : Int32) => r = u) (fun (u : Int32) (t : State) => (((((p1.toInt < -999) ∨ ((¬ (p1.toInt < -999)) ∧ (¬ (p1.toInt ≤ 999)))) ∨ (((¬ (p1.toInt < -999)) ∧ (p1.toInt ≤ 999)) ∧ ((p2.toInt < -999) ∨ ((¬ (p2.toInt < -999)) ∧ (¬ (p2.toInt ≤ 999)))))) ∨ ((((¬ (p1.toInt < -999)) ∧ (p1.toInt ≤ 999)) ∧ ((¬ (p2.toInt < -999)) ∧ (p2.toInt ≤ 999))) ∧ ((p3.toInt < 0) ∨ ((¬ (p3.toInt < 0)) ∧ (¬ (p3.toInt ≤ ((9999999) : Int32).toInt)))))) ∧ 1 = u ∧ xE dC dI [(a2, .inl (T 5, 1, .inr (.inl (fun _ => 0))))] (va_A [(a1, .inr (16, [.ref a3, .ref a4, .ref a5, .ref a6, .ref a7, .ref a8, .ref a9, .ref a10, .ref a11, .ref a12])), (a3, .inr (10, [.ref a13, .ref a14, .ref a15, .ref a16, .ref a17, .int 0, .int 0])), (a2, .inl (T 5, 1, .inr (.inl (fun _ => 0))))] sz) t) ∨ (((((¬ (p1.toInt < -999)) ∧ (p1.toInt ≤ 999)) ∧ ((¬ (p2.toInt < -999)) ∧ (p2.toInt ≤ 999))) ∧ ((¬ (p3.toInt < 0)) ∧ (p3.toInt ≤ ((9999999) : Int32).toInt))) ∧ 0 = u ∧ xE dC dI [(a2, .inl (T 5, 1, .inr (.inl (vp_updL (fun _ => 0) (0 : Int32).toNatClampNeg 0))))] (va_A [(a1, .inr (16, [.ref a3, .ref a4, .ref a5, .ref a6, .ref a7, .ref a8, .ref a9, .ref a10, .ref a11, .ref a12])), (a3, .inr (10, [.ref a13, .ref a14, .ref a15, .ref a16, .ref a17, .int 0, .int 0])), (a2, .inl (T 5, 1, .inr (.inl (fun _ => 0))))] sz) t)) (va_A [(a1, .inr (16, [.ref a3, .ref a4, .ref a5, .ref a6, .ref a7, .ref a8, .ref a9, .ref a10, .ref a11, .ref a12])), (a3, .inr (10, [.ref a13, .ref a14, .ref a15, .ref a16, .ref a17, .int 0, .int 0])), (a2, .inl (T 5, 1, .inr (.inl (fun _ => 0))))] sz)) 3 18 (va_A [(a1, .inr (16, [.ref a3, .ref a4, .ref a5, .ref a6, .ref a7, .ref a8, .ref a9, .ref a10, .ref a11, .ref a12])), (a3, .inr (10, [.ref a13, .ref a14, .ref a15, .ref a16, .ref a17, .int 0, .int 0])), (a2, .inl (T 5, 1, .inr (.inl (fun _ => 0))))] sz) := by
  refine va_MetW (cc := cL_within) (maxL := 6) (ret := (some .int)) (hh := [(0, 12, 15, 13)]) (by decide +kernel) rfl ?_
  intro p e s m args below meth c s₁ B hml hv
  obtain ⟨rfl, hsz, hP, hK, hD0, hG⟩ := hv
  have hx := B.exec
  have hb := B.bytes
  have hr := B.returns
  have hts := atoms_spec (ws := wsL_within) B.pre
  have hown : s.vm.findClass RL = some m.cls := findClass_of_methodNamed B.named
  have hlocks := B.notSynchronized
  have htab := vx_table (x := yL_within) B (hts (.codeWith yL_within cL_within 6 (some .int) [(0, 12, 15, 13)]) (by decide +kernel))
  subst hsz
  have hD := hD0.self (sz := s.heap.size)
  generalize hAe : va_A [(a1, .inr (16, [.ref a3, .ref a4, .ref a5, .ref a6, .ref a7, .ref a8, .ref a9, .ref a10, .ref a11, .ref a12])), (a3, .inr (10, [.ref a13, .ref a14, .ref a15, .ref a16, .ref a17, .int 0, .int 0])), (a2, .inl (T 5, 1, .inr (.inl (fun _ => 0))))] s.heap.size = A at hD hG ⊢
  have hA : ∀ q : Nat, s.heap.size ≤ q → A q := fun q h => by rw [← hAe]; exact Or.inr h
  have hS : va_S A s.heap s.heap [] := va_S.rf
  have hl := lv_entry ([.ref a1, .int p1, .int p2, .int p3, .ref a2]) (n := 6) (Nat.le_of_ble_eq_true rfl)
  rw [lg_entry_eq]
  generalize (lg_sl ([.ref a1, .int p1, .int p2, .int p3, .ref a2]) ++ List.replicate (6 - (lg_sl ([.ref a1, .int p1, .int p2, .int p3, .ref a2])).length) Slot.unset).toArray = ls at hl ⊢
  have hl : lv_has ls 6 [(0, .ref a1), (1, .int p1), (2, .int p2), (3, .int p3), (4, .ref a2)] := hl
  refine lv_aload hx hb dL_within_0 (lv_at hl 4 rfl) ?_
  refine lv_iconst (v := 0) hx hb dL_within_2 (by decide) ?_
  refine lv_aload_n hx hb dL_within_3 rfl (lv_at hl 0 rfl) ?_
  refine lv_iload_n hx hb dL_within_4 rfl (lv_at hl 1 rfl) ?_
  refine lv_iload_n hx hb dL_within_5 rfl (lv_at hl 2 rfl) ?_
  refine lv_iload_n hx hb dL_within_6 rfl (lv_at hl 3 rfl) ?_
  have hPc := hP.sub (ws' := [(a1, .inr (16, [.ref a3, .ref a4, .ref a5, .ref a6, .ref a7, .ref a8, .ref a9, .ref a10, .ref a11, .ref a12])), (a3, .inr (10, [.ref a13, .ref a14, .ref a15, .ref a16, .ref a17, .int 0, .int 0]))]) [0, 1] rfl
  have hDc := hD.sub (ws' := [(a1, .inr (16, [.ref a3, .ref a4, .ref a5, .ref a6, .ref a7, .ref a8, .ref a9, .ref a10, .ref a11, .ref a12])), (a3, .inr (10, [.ref a13, .ref a14, .ref a15, .ref a16, .ref a17, .int 0, .int 0]))]) [0, 1] (by decide) rfl
  have hFc := va_free (wc := [(a1, .inr (16, [.ref a3, .ref a4, .ref a5, .ref a6, .ref a7, .ref a8, .ref a9, .ref a10, .ref a11, .ref a12])), (a3, .inr (10, [.ref a13, .ref a14, .ref a15, .ref a16, .ref a17, .int 0, .int 0]))]) hD hS hA [0, 1] rfl
  refine vx_calli (vx_runV (As := [.int p1, .int p2, .int p3]) (rest := [.int 0, .ref a2]) ⟨hx, hb, hml, hown, hts⟩ (xcX11_within l hst dC dI T a1 a3 a4 a5 a6 a7 a8 a9 a10 a11 a12 a13 a14 a15 a16 a17 s.heap.size p1 p2 p3) (cwV 3 hts gL_within_X11_within rfl rfl rfl (by decide +kernel) ⟨Nat.le_of_ble_eq_true rfl, Nat.le_of_ble_eq_true rfl⟩) ⟨xBlind, va_recv hK hPc (ci := 16) (q0 := 0) rfl rfl, xCall hK hG hS hPc hDc hFc⟩ rfl rfl hl.1 rfl (lv_room (Nat.le_of_ble_eq_true rfl)) dL_within_7 ⟨Nat.le_of_ble_eq_true rfl, Nat.le_of_ble_eq_true rfl⟩) hS (fun q _ h => hFc q h) hFc (fun q _ h => hFc q h) (fun E ce q9 u t H locs ht hvm hw hB hz1 hk1 hS hce hcv hcl => ?_) (fun r_9 u t H locs ht hvm hw hB hz1 hk1 hS => ?_)
  · rcases hB with ⟨c_1, hE, hP1, hD1⟩
    have hz_2 : ((9999999) : Int32).toInt = 9999999 := by decide +kernel
    subst hE
    rw [ht] at hP1
    obtain ⟨hP, hD⟩ := va_join (wr := [(a2, .inl (T 5, 1, .inr (.inl (fun _ => 0))))]) (w1 := []) hP hD [0, 1] [2] rfl rfl (by decide) (by decide) hk1 hFc hP1 hD1
    have hP : va_P (dC, dI) vwCl [(a2, .inl (T 5, 1, .inr (.inl (fun _ => 0))))] H := hP
    have hD : va_D A [(a2, .inl (T 5, 1, .inr (.inl (fun _ => 0))))] := hD
    clear hPc hDc hFc hP1 hD1 hk1 hz1 ht hvm
    refine vx_catch (E := "java/lang/IllegalArgumentException") (name := "java/lang/IllegalArgumentException") hown [] ⟨0, 12, 15, 13⟩ [] (htab.trans rfl) (fun _ h => absurd h List.not_mem_nil) (by decide) (by decide) (hts (.classLink RL 13 "java/lang/IllegalArgumentException") (by decide +kernel)) (xBad_use hG.2.2.2.1 _ (by decide +kernel)) hce hcv hcl ?_
    refine lv_astore (lv' := [(5, .ref q9), (0, .ref a1), (1, .int p1), (2, .int p2), (3, .int p3), (4, .ref a2)]) hx hb dL_within_15 hl (by decide) rfl (fun ls hl => ?_)
    refine lv_iconst (v := 1) hx hb dL_within_17 (by decide) ?_
    have hP9 := hP.sub (ws' := [(a2, .inl (T 5, 1, .inr (.inl (fun _ => 0))))]) [0] rfl
    have hD9 := hD.sub (ws' := [(a2, .inl (T 5, 1, .inr (.inl (fun _ => 0))))]) [0] (by decide) rfl
    exact W.iret (v := 1) hx hb hr (fun t ht hW => ⟨⟨_, _, rfl, rfl, (Or.inl ⟨c_1, rfl, by rw [ht]; exact hP9, hD9⟩)⟩, hS.F ht⟩) hS.2.2 dL_within_18
  · subst hw
    rcases hB with ⟨c_3, hr_9, hP1, hD1⟩
    have hz_4 : ((9999999) : Int32).toInt = 9999999 := by decide +kernel
    rw [ht] at hP1
    subst hr_9
    obtain ⟨hP, hD⟩ := va_join (wr := [(a2, .inl (T 5, 1, .inr (.inl (fun _ => 0))))]) (w1 := []) hP hD [0, 1] [2] rfl rfl (by decide) (by decide) hk1 hFc hP1 hD1
    have hP : va_P (dC, dI) vwCl [(a2, .inl (T 5, 1, .inr (.inl (fun _ => 0))))] H := hP
    have hD : va_D A [(a2, .inl (T 5, 1, .inr (.inl (fun _ => 0))))] := hD
    clear hPc hDc hFc hP1 hD1 hk1 hz1 ht hvm
    refine lv_i2l (v := 0) hx hb dL_within_10 (by decide) ?_
    refine va_last hx hb hK hP hD hS 0 5 rfl rfl (show vp_in 0 1 by unfold vp_in; decide) dL_within_11 (fun H locs hP hD hS => ?_)
    have hP : va_P (dC, dI) vwCl [(a2, .inl (T 5, 1, .inr (.inl (vp_updL (fun _ => 0) (0 : Int32).toNatClampNeg 0))))] H := hP
    have hD : va_D A [(a2, .inl (T 5, 1, .inr (.inl (vp_updL (fun _ => 0) (0 : Int32).toNatClampNeg 0))))] := hD
    refine lv_goto (tgt := 19) hx hb dL_within_12 (by decide) ?_
    refine lv_iconst (v := 0) hx hb dL_within_19 (by decide) ?_
    have hP9 := hP.sub (ws' := [(a2, .inl (T 5, 1, .inr (.inl (vp_updL (fun _ => 0) (0 : Int32).toNatClampNeg 0))))]) [0] rfl
    have hD9 := hD.sub (ws' := [(a2, .inl (T 5, 1, .inr (.inl (vp_updL (fun _ => 0) (0 : Int32).toNatClampNeg 0))))]) [0] (by decide) rfl
    exact W.iret (v := 0) hx hb hr (fun t ht hW => ⟨⟨_, _, rfl, rfl, (Or.inr (⟨c_3, rfl, by rw [ht]; exact hP9, hD9⟩))⟩, hS.F ht⟩) hS.2.2 dL_within_20
set_option maxHeartbeats 4000000 in
set_option maxRecDepth 100000 in
theorem xcX11_checksum (l : Launch) (hst : l.stackTraces = false) (dC : Nat → ClassId) (dI : Nat → Nat → Nat) (T : Nat → ClassId) (a1 : Nat) (a2 : Nat) (a3 : Nat) (a4 : Nat) (a5 : Nat) (a6 : Nat) (a7 : Nat) (a8 : Nat) (a9 : Nat) (a10 : Nat) (a11 : Nat) (a12 : Nat) (a13 : Nat) (a14 : Nat) (a15 : Nat) (a16 : Nat) (a18 : Nat) (a19 : Nat) (a26 : Nat) (a27 : Nat) (a28 : Nat) (a29 : Nat) (sz : Nat) : Met l yX11_checksum wsX11_checksum ({ frames := 3, cells := 0, slots := 0, locals := 65 } : Room) (va_Pc [.ref a1] (fun U => xB dC dI T [(a1, .inr (16, [.ref a2, .ref a3, .ref a4, .ref a5, .ref a6, .ref a7, .ref a8, .ref a9, .ref a10, .ref a11])), (a2, .inr (10, [.ref a12, .ref a13, .ref a14, .ref a15, .ref a16, .int 0, .int 0])), (a4, .inr (8, [.ref a18, .ref a19, .int 0, .int (-1)])), (a19, .inl (T 0, 12, .inl (fun _ => 0))), (a8, .inr (15, [.ref a26, .ref a27, .ref a28, .ref a29, .int 0]))] sz U)) (va_Ql (fun (r u : Int64) => r = u) (fun (u : Int64) (t : State) => 6727 = u ∧ xE dC dI [] (va_A [(a1, .inr (16, [.ref a2, .ref a3, .ref a4, .ref a5, .ref a6, .ref a7, .ref a8, .ref a9, .ref a10, .ref a11])), (a2, .inr (10, [.ref a12, .ref a13, .ref a14, .ref a15, .ref a16, .int 0, .int 0])), (a4, .inr (8, [.ref a18, .ref a19, .int 0, .int (-1)])), (a19, .inl (T 0, 12, .inl (fun _ => 0))), (a8, .inr (15, [.ref a26, .ref a27, .ref a28, .ref a29, .int 0]))] sz) t) (va_A [(a1, .inr (16, [.ref a2, .ref a3, .ref a4, .ref a5, .ref a6, .ref a7, .ref a8, .ref a9, .ref a10, .ref a11])), (a2, .inr (10, [.ref a12, .ref a13, .ref a14, .ref a15, .ref a16, .int 0, .int 0])), (a4, .inr (8, [.ref a18, .ref a19, .int 0, .int (-1)])), (a19, .inl (T 0, 12, .inl (fun _ => 0))), (a8, .inr (15, [.ref a26, .ref a27, .ref a28, .ref a29, .int 0]))] sz)) 0 0 (va_A [(a1, .inr (16, [.ref a2, .ref a3, .ref a4, .ref a5, .ref a6, .ref a7, .ref a8, .ref a9, .ref a10, .ref a11])), (a2, .inr (10, [.ref a12, .ref a13, .ref a14, .ref a15, .ref a16, .int 0, .int 0])), (a4, .inr (8, [.ref a18, .ref a19, .int 0, .int (-1)])), (a19, .inl (T 0, 12, .inl (fun _ => 0))), (a8, .inr (15, [.ref a26, .ref a27, .ref a28, .ref a29, .int 0]))] sz) := by
  refine Met.ofW (cc := cX11_checksum) (maxL := 4) (ret := (some .long)) (by decide +kernel) rfl ?_
  intro p e s m args below meth c s₁ B hml hv
  obtain ⟨rfl, hsz, hP, hK, hD0, hG⟩ := hv
  have hx := B.exec
  have hb := B.bytes
  have hr := B.returns
  have hts := atoms_spec (ws := wsX11_checksum) B.pre
  have hown : s.vm.findClass RX11 = some m.cls := findClass_of_methodNamed B.named
  have hlocks := B.notSynchronized
  have hin_X10 : ∀ w ∈ wsX100, w ∈ wsX11_checksum := by decide +kernel
  have hin_X11 : ∀ w ∈ wsX110, w ∈ wsX11_checksum := by decide +kernel
  have hin_X3 : ∀ w ∈ wsX30, w ∈ wsX11_checksum := by decide +kernel
  subst hsz
  have hD := hD0.self (sz := s.heap.size)
  generalize hAe : va_A [(a1, .inr (16, [.ref a2, .ref a3, .ref a4, .ref a5, .ref a6, .ref a7, .ref a8, .ref a9, .ref a10, .ref a11])), (a2, .inr (10, [.ref a12, .ref a13, .ref a14, .ref a15, .ref a16, .int 0, .int 0])), (a4, .inr (8, [.ref a18, .ref a19, .int 0, .int (-1)])), (a19, .inl (T 0, 12, .inl (fun _ => 0))), (a8, .inr (15, [.ref a26, .ref a27, .ref a28, .ref a29, .int 0]))] s.heap.size = A at hD hG ⊢
  have hA : ∀ q : Nat, s.heap.size ≤ q → A q := fun q h => by rw [← hAe]; exact Or.inr h
  have hS : va_S A s.heap s.heap [] := va_S.rf
  have hl := lv_entry ([.ref a1]) (n := 4) (Nat.le_of_ble_eq_true rfl)
  rw [lg_entry_eq]
  generalize (lg_sl ([.ref a1]) ++ List.replicate (4 - (lg_sl ([.ref a1])).length) Slot.unset).toArray = ls at hl ⊢
  have hl : lv_has ls 4 [(0, .ref a1)] := hl
  refine lv_ldc2 (v := 7) hx hb hown (hts (.constantLong RX11 363 7) (by decide +kernel)) dX11_checksum_0 ?_
  refine lv_lstore_n (lv' := [(1, .long 7), (0, .ref a1)]) hx hb dX11_checksum_3 rfl hl (by decide) rfl (fun ls hl => ?_)
  refine lv_iconst (v := 0) hx hb dX11_checksum_4 (by decide) ?_
  refine lv_istore_n (lv' := [(3, .int 0), (1, .long 7), (0, .ref a1)]) hx hb dX11_checksum_5 rfl hl (by decide) rfl (fun ls hl => ?_)
  refine xLoop (P := fun i_k_1 H locs ls => va_P (dC, dI) vwCl [(a1, .inr (16, [.ref a2, .ref a3, .ref a4, .ref a5, .ref a6, .ref a7, .ref a8, .ref a9, .ref a10, .ref a11])), (a2, .inr (10, [.ref a12, .ref a13, .ref a14, .ref a15, .ref a16, .int 0, .int 0])), (a4, .inr (8, [.ref a18, .ref a19, .int 0, .int (-1)])), (a19, .inl (T 0, 12, .inl (fun _ => 0))), (a8, .inr (15, [.ref a26, .ref a27, .ref a28, .ref a29, .int 0]))] H ∧ va_D A [(a1, .inr (16, [.ref a2, .ref a3, .ref a4, .ref a5, .ref a6, .ref a7, .ref a8, .ref a9, .ref a10, .ref a11])), (a2, .inr (10, [.ref a12, .ref a13, .ref a14, .ref a15, .ref a16, .int 0, .int 0])), (a4, .inr (8, [.ref a18, .ref a19, .int 0, .int (-1)])), (a19, .inl (T 0, 12, .inl (fun _ => 0))), (a8, .inr (15, [.ref a26, .ref a27, .ref a28, .ref a29, .int 0]))] ∧ va_S A s.heap H locs ∧ lv_has ls 4 [(3, .int (nI i_k_1)), (1, .long 7), (0, .ref a1)]) (N := 12) (fun i_k_1 H locs ls hi_k_1 hI ih_k_1 => ?_) (0) _ _ _ (by omega) ⟨hP, hD, hS, lv_sub hl [0, 1, 2] rfl⟩
  obtain ⟨hP, hD, hS, hl⟩ := hI
  refine lv_iload_n hx hb dX11_checksum_6 rfl (lv_at hl 0 rfl) ?_
  refine lv_bipush (v := 12) hx hb dX11_checksum_7 (by decide) ?_
  have hz_3 : (nI i_k_1).toInt = ((i_k_1 : Nat) : Int) := nI_toInt (by omega)
  refine lv_icmp_ge (tgt := 89) hx hb dX11_checksum_9 (by decide) (fun c_2 => ?_) (fun c_2 => ?_)
  · have nc_2 : 12 ≤ (nI i_k_1).toInt := (xi_le (by decide +kernel) rfl).mp c_2
    refine lv_aload_n hx hb dX11_checksum_89 rfl (lv_at hl 2 rfl) ?_
    refine va_get (D := (dC, dI)) (ci := 16) (v := .ref a4) (C := RX11) (T := TX11) (N := 10) hx hb hts hin_X11 hown hK hP 0 rfl rfl 2 (by decide) (hts (.fieldLink RX11 26 "Nearestward" "triangles" "LNearestward$FatTriangles;") (by decide +kernel)) (fun _ h9 => h9) rfl dX11_checksum_90 ?_
    refine lv_aload_n hx hb dX11_checksum_93 rfl (lv_at hl 2 rfl) ?_
    refine va_get (D := (dC, dI)) (ci := 16) (v := .ref a2) (C := RX11) (T := TX11) (N := 10) hx hb hts hin_X11 hown hK hP 0 rfl rfl 0 (by decide) (hts (.fieldLink RX11 12 "Nearestward" "ground" "LNearestward$Ground;") (by decide +kernel)) (fun _ h9 => h9) rfl dX11_checksum_94 ?_
    have hPc := hP.sub (ws' := [(a2, .inr (10, [.ref a12, .ref a13, .ref a14, .ref a15, .ref a16, .int 0, .int 0])), (a4, .inr (8, [.ref a18, .ref a19, .int 0, .int (-1)])), (a19, .inl (T 0, 12, .inl (fun _ => 0)))]) [1, 2, 3] rfl
    have hDc := hD.sub (ws' := [(a2, .inr (10, [.ref a12, .ref a13, .ref a14, .ref a15, .ref a16, .int 0, .int 0])), (a4, .inr (8, [.ref a18, .ref a19, .int 0, .int (-1)])), (a19, .inl (T 0, 12, .inl (fun _ => 0)))]) [1, 2, 3] (by decide) rfl
    have hFc := va_free (wc := [(a2, .inr (10, [.ref a12, .ref a13, .ref a14, .ref a15, .ref a16, .int 0, .int 0])), (a4, .inr (8, [.ref a18, .ref a19, .int 0, .int (-1)])), (a19, .inl (T 0, 12, .inl (fun _ => 0)))]) hD hS hA [1, 2, 3] rfl
    refine va_callv (va_runV (As := [.ref a2]) (rest := []) ⟨hx, hb, hml, hown, hts⟩ (xcX3_findIn l hst dC dI T a4 a2 a12 a13 a14 a15 a16 a18 a19 H.size) (cwV 1 hts gX11_checksum_X3_findIn rfl rfl rfl (by decide +kernel) ⟨Nat.le_of_ble_eq_true rfl, Nat.le_of_ble_eq_true rfl⟩) ⟨xBlind, va_recv hK hPc (ci := 8) (q0 := 1) rfl rfl, xCall hK hG hS hPc hDc hFc⟩ rfl rfl hl.1 rfl (lv_room (Nat.le_of_ble_eq_true rfl)) dX11_checksum_97 ⟨Nat.le_of_ble_eq_true rfl, Nat.le_of_ble_eq_true rfl⟩) hS (fun q _ h => hFc q h) hFc (fun u t H locs ht hvm hw hB hz1 hk1 hS => ?_)
    rcases hB with ⟨hP1, hD1⟩
    rw [ht] at hP1
    obtain ⟨hP, hD⟩ := va_join (wr := [(a1, .inr (16, [.ref a2, .ref a3, .ref a4, .ref a5, .ref a6, .ref a7, .ref a8, .ref a9, .ref a10, .ref a11])), (a8, .inr (15, [.ref a26, .ref a27, .ref a28, .ref a29, .int 0]))]) (w1 := [(a2, .inr (10, [.ref a12, .ref a13, .ref a14, .ref a15, .ref a16, .int 0, .int 0])), (a4, .inr (8, [.ref a18, .ref a19, .int 0, .int 0])), (a19, .inl (T 0, 12, .inl (fun _ => 0)))]) hP hD [1, 2, 3] [0, 4] rfl rfl (by decide) (by decide) hk1 hFc hP1 hD1
    have hP := hP.sub (ws' := [(a1, .inr (16, [.ref a2, .ref a3, .ref a4, .ref a5, .ref a6, .ref a7, .ref a8, .ref a9, .ref a10, .ref a11])), (a2, .inr (10, [.ref a12, .ref a13, .ref a14, .ref a15, .ref a16, .int 0, .int 0])), (a4, .inr (8, [.ref a18, .ref a19, .int 0, .int 0])), (a19, .inl (T 0, 12, .inl (fun _ => 0))), (a8, .inr (15, [.ref a26, .ref a27, .ref a28, .ref a29, .int 0]))]) [0, 2, 3, 4, 1] rfl
    have hD := hD.sub (ws' := [(a1, .inr (16, [.ref a2, .ref a3, .ref a4, .ref a5, .ref a6, .ref a7, .ref a8, .ref a9, .ref a10, .ref a11])), (a2, .inr (10, [.ref a12, .ref a13, .ref a14, .ref a15, .ref a16, .int 0, .int 0])), (a4, .inr (8, [.ref a18, .ref a19, .int 0, .int 0])), (a19, .inl (T 0, 12, .inl (fun _ => 0))), (a8, .inr (15, [.ref a26, .ref a27, .ref a28, .ref a29, .int 0]))]) [0, 2, 3, 4, 1] (by decide) rfl
    clear hPc hDc hFc hP1 hD1 hk1 hz1 ht hvm
    refine lv_ldc2 (v := 31) hx hb hown (hts (.constantLong RX11 365 31) (by decide +kernel)) dX11_checksum_100 ?_
    refine lv_lload_n hx hb dX11_checksum_103 rfl (lv_at hl 1 rfl) ?_
    refine lv_lmul hx hb dX11_checksum_104 ?_
    refine lv_topl (fun f_5 ef_5 => ?_)
    obtain rfl : f_5 = 217 := ef_5.trans (by decide)
    refine lv_aload_n hx hb dX11_checksum_105 rfl (lv_at hl 2 rfl) ?_
    refine va_get (D := (dC, dI)) (ci := 16) (v := .ref a8) (C := RX11) (T := TX11) (N := 10) hx hb hts hin_X11 hown hK hP 0 rfl rfl 6 (by decide) (hts (.fieldLink RX11 54 "Nearestward" "walls" "LNearestward$Walls;") (by decide +kernel)) (fun _ h9 => h9) rfl dX11_checksum_106 ?_
    refine va_get (D := (dC, dI)) (ci := 15) (v := .int 0) (C := RX10) (T := TX10) (N := 5) hx hb hts hin_X10 hown hK hP 4 rfl rfl 4 (by decide) (hts (.fieldLink RX11 272 "Nearestward$Walls" "count" "I") (by decide +kernel)) (fun _ h9 => h9) rfl dX11_checksum_109 ?_
    refine lv_i2l (v := 0) hx hb dX11_checksum_112 (by decide) ?_
    refine lv_ladd hx hb dX11_checksum_113 ?_
    refine lv_topl (fun f_6 ef_6 => ?_)
    obtain rfl : f_6 = 217 := ef_6.trans (by decide)
    refine lv_lstore_n (lv' := [(1, .long 217), (3, .int (nI i_k_1)), (0, .ref a1)]) hx hb dX11_checksum_114 rfl hl (by decide) rfl (fun ls hl => ?_)
    refine lv_ldc2 (v := 31) hx hb hown (hts (.constantLong RX11 365 31) (by decide +kernel)) dX11_checksum_115 ?_
    refine lv_lload_n hx hb dX11_checksum_118 rfl (lv_at hl 0 rfl) ?_
    refine lv_lmul hx hb dX11_checksum_119 ?_
    refine lv_topl (fun f_7 ef_7 => ?_)
    obtain rfl : f_7 = 6727 := ef_7.trans (by decide)
    refine lv_aload_n hx hb dX11_checksum_120 rfl (lv_at hl 2 rfl) ?_
    refine va_get (D := (dC, dI)) (ci := 16) (v := .ref a4) (C := RX11) (T := TX11) (N := 10) hx hb hts hin_X11 hown hK hP 0 rfl rfl 2 (by decide) (hts (.fieldLink RX11 26 "Nearestward" "triangles" "LNearestward$FatTriangles;") (by decide +kernel)) (fun _ h9 => h9) rfl dX11_checksum_121 ?_
    refine va_get (D := (dC, dI)) (ci := 8) (v := .int 0) (C := RX3) (T := TX3) (N := 4) hx hb hts hin_X3 hown hK hP 2 rfl rfl 2 (by decide) (hts (.fieldLink RX11 190 "Nearestward$FatTriangles" "count" "I") (by decide +kernel)) (fun _ h9 => h9) rfl dX11_checksum_124 ?_
    refine lv_i2l (v := 0) hx hb dX11_checksum_127 (by decide) ?_
    refine lv_ladd hx hb dX11_checksum_128 ?_
    refine lv_topl (fun f_8 ef_8 => ?_)
    obtain rfl : f_8 = 6727 := ef_8.trans (by decide)
    have hP9 := hP.sub (ws' := []) [] rfl
    have hD9 := hD.sub (ws' := []) [] (by decide) rfl
    exact W.lret (v := 6727) hx hb hr (fun t ht hW => ⟨⟨_, _, rfl, rfl, ⟨rfl, by rw [ht]; exact hP9, hD9⟩⟩, hS.F ht⟩) hS.2.2 dX11_checksum_129
  · have nc_2 : ¬ (12 ≤ (nI i_k_1).toInt) := mt (xi_le (by decide +kernel) rfl).mpr c_2
    refine lv_aload_n hx hb dX11_checksum_12 rfl (lv_at hl 2 rfl) ?_
    refine va_get (D := (dC, dI)) (ci := 16) (v := .ref a2) (C := RX11) (T := TX11) (N := 10) hx hb hts hin_X11 hown hK hP 0 rfl rfl 0 (by decide) (hts (.fieldLink RX11 12 "Nearestward" "ground" "LNearestward$Ground;") (by decide +kernel)) (fun _ h9 => h9) rfl dX11_checksum_13 ?_
    refine lv_iload_n hx hb dX11_checksum_16 rfl (lv_at hl 0 rfl) ?_
    have hPc := hP.sub (ws' := [(a2, .inr (10, [.ref a12, .ref a13, .ref a14, .ref a15, .ref a16, .int 0, .int 0]))]) [1] rfl
    have hDc := hD.sub (ws' := [(a2, .inr (10, [.ref a12, .ref a13, .ref a14, .ref a15, .ref a16, .int 0, .int 0]))]) [1] (by decide) rfl
    have hFc := va_free (wc := [(a2, .inr (10, [.ref a12, .ref a13, .ref a14, .ref a15, .ref a16, .int 0, .int 0]))]) hD hS hA [1] rfl
    refine va_calli (va_runV (As := [.int (nI i_k_1)]) (rest := []) ⟨hx, hb, hml, hown, hts⟩ (xcX5_has l hst dC dI T a2 a12 a13 a14 a15 a16 H.size (nI i_k_1)) (cwV 1 hts gX11_checksum_X5_has rfl rfl rfl (by decide +kernel) ⟨Nat.le_of_ble_eq_true rfl, Nat.le_of_ble_eq_true rfl⟩) ⟨xBlind, va_recv hK hPc (ci := 10) (q0 := 0) rfl rfl, xCall hK hG hS hPc hDc hFc⟩ rfl rfl hl.1 rfl (lv_room (Nat.le_of_ble_eq_true rfl)) dX11_checksum_17 ⟨Nat.le_of_ble_eq_true rfl, Nat.le_of_ble_eq_true rfl⟩) hS (fun q _ h => hFc q h) hFc (fun r_9 u t H locs ht hvm hw hB hz1 hk1 hS => ?_)
    subst hw
    rcases hB with ⟨hr_9, hP1, hD1⟩
    rw [ht] at hP1
    subst hr_9
    obtain ⟨hP, hD⟩ := va_join (wr := [(a1, .inr (16, [.ref a2, .ref a3, .ref a4, .ref a5, .ref a6, .ref a7, .ref a8, .ref a9, .ref a10, .ref a11])), (a4, .inr (8, [.ref a18, .ref a19, .int 0, .int (-1)])), (a19, .inl (T 0, 12, .inl (fun _ => 0))), (a8, .inr (15, [.ref a26, .ref a27, .ref a28, .ref a29, .int 0]))]) (w1 := [(a2, .inr (10, [.ref a12, .ref a13, .ref a14, .ref a15, .ref a16, .int 0, .int 0]))]) hP hD [1] [0, 2, 3, 4] rfl rfl (by decide) (by decide) hk1 hFc hP1 hD1
    have hP := hP.sub (ws' := [(a1, .inr (16, [.ref a2, .ref a3, .ref a4, .ref a5, .ref a6, .ref a7, .ref a8, .ref a9, .ref a10, .ref a11])), (a2, .inr (10, [.ref a12, .ref a13, .ref a14, .ref a15, .ref a16, .int 0, .int 0])), (a4, .inr (8, [.ref a18, .ref a19, .int 0, .int (-1)])), (a19, .inl (T 0, 12, .inl (fun _ => 0))), (a8, .inr (15, [.ref a26, .ref a27, .ref a28, .ref a29, .int 0]))]) [0, 4, 1, 2, 3] rfl
    have hD := hD.sub (ws' := [(a1, .inr (16, [.ref a2, .ref a3, .ref a4, .ref a5, .ref a6, .ref a7, .ref a8, .ref a9, .ref a10, .ref a11])), (a2, .inr (10, [.ref a12, .ref a13, .ref a14, .ref a15, .ref a16, .int 0, .int 0])), (a4, .inr (8, [.ref a18, .ref a19, .int 0, .int (-1)])), (a19, .inl (T 0, 12, .inl (fun _ => 0))), (a8, .inr (15, [.ref a26, .ref a27, .ref a28, .ref a29, .int 0]))]) [0, 4, 1, 2, 3] (by decide) rfl
    clear hPc hDc hFc hP1 hD1 hk1 hz1 ht hvm
    refine lv_if_eq (tgt := 83) hx hb dX11_checksum_20 (by decide) (fun c_10 => ?_) (fun c_10 => absurd (by decide) c_10)
    refine lv_iinc (v := (nI (i_k_1 + 1))) (lv' := [(3, .int (nI (i_k_1 + 1))), (1, .long 7), (0, .ref a1)]) hx hb dX11_checksum_83 hl (k := 0) rfl (nI_1 _) (by decide) rfl (fun ls hl => ?_)
    refine lv_goto (tgt := 6) hx hb dX11_checksum_86 (by decide) ?_
    exact ih_k_1 _ _ _ (by omega) ⟨hP, hD, hS, lv_sub hl [0, 1, 2] rfl⟩
set_option maxHeartbeats 4000000 in
set_option maxRecDepth 100000 in
theorem xcX11_countHull (l : Launch) (hst : l.stackTraces = false) (dC : Nat → ClassId) (dI : Nat → Nat → Nat) (T : Nat → ClassId) (a1 : Nat) (a2 : Nat) (a3 : Nat) (a4 : Nat) (a5 : Nat) (a6 : Nat) (a7 : Nat) (a8 : Nat) (a9 : Nat) (a10 : Nat) (a11 : Nat) (a12 : Nat) (a13 : Nat) (a14 : Nat) (a15 : Nat) (a16 : Nat) (a23 : Nat) (sz : Nat) : Met l yX11_countHull wsX11_countHull ({ frames := 4, cells := 0, slots := 0, locals := 88 } : Room) (va_Pc [.ref a1] (fun U => xB dC dI T [(a1, .inr (16, [.ref a2, .ref a3, .ref a4, .ref a5, .ref a6, .ref a7, .ref a8, .ref a9, .ref a10, .ref a11])), (a2, .inr (10, [.ref a12, .ref a13, .ref a14, .ref a15, .ref a16, .int 0, .int 0])), (a6, .inr (12, [.ref a23, .int 0]))] sz U)) (va_Qi (fun (r u : Int32) => r = u) (fun (u : Int32) (t : State) => 0 = u ∧ xE dC dI [] (va_A [(a1, .inr (16, [.ref a2, .ref a3, .ref a4, .ref a5, .ref a6, .ref a7, .ref a8, .ref a9, .ref a10, .ref a11])), (a2, .inr (10, [.ref a12, .ref a13, .ref a14, .ref a15, .ref a16, .int 0, .int 0])), (a6, .inr (12, [.ref a23, .int 0]))] sz) t) (va_A [(a1, .inr (16, [.ref a2, .ref a3, .ref a4, .ref a5, .ref a6, .ref a7, .ref a8, .ref a9, .ref a10, .ref a11])), (a2, .inr (10, [.ref a12, .ref a13, .ref a14, .ref a15, .ref a16, .int 0, .int 0])), (a6, .inr (12, [.ref a23, .int 0]))] sz)) 0 0 (va_A [(a1, .inr (16, [.ref a2, .ref a3, .ref a4, .ref a5, .ref a6, .ref a7, .ref a8, .ref a9, .ref a10, .ref a11])), (a2, .inr (10, [.ref a12, .ref a13, .ref a14, .ref a15, .ref a16, .int 0, .int 0])), (a6, .inr (12, [.ref a23, .int 0]))] sz) := by
  refine Met.ofW (cc := cX11_countHull) (maxL := 1) (ret := (some .int)) (by decide +kernel) rfl ?_
  intro p e s m args below meth c s₁ B hml hv
  obtain ⟨rfl, hsz, hP, hK, hD0, hG⟩ := hv
  have hx := B.exec
  have hb := B.bytes
  have hr := B.returns
  have hts := atoms_spec (ws := wsX11_countHull) B.pre
  have hown : s.vm.findClass RX11 = some m.cls := findClass_of_methodNamed B.named
  have hlocks := B.notSynchronized
  have hin_X11 : ∀ w ∈ wsX110, w ∈ wsX11_countHull := by decide +kernel
  have hin_X7 : ∀ w ∈ wsX70, w ∈ wsX11_countHull := by decide +kernel
  subst hsz
  have hD := hD0.self (sz := s.heap.size)
  generalize hAe : va_A [(a1, .inr (16, [.ref a2, .ref a3, .ref a4, .ref a5, .ref a6, .ref a7, .ref a8, .ref a9, .ref a10, .ref a11])), (a2, .inr (10, [.ref a12, .ref a13, .ref a14, .ref a15, .ref a16, .int 0, .int 0])), (a6, .inr (12, [.ref a23, .int 0]))] s.heap.size = A at hD hG ⊢
  have hA : ∀ q : Nat, s.heap.size ≤ q → A q := fun q h => by rw [← hAe]; exact Or.inr h
  have hS : va_S A s.heap s.heap [] := va_S.rf
  have hl := lv_entry ([.ref a1]) (n := 1) (Nat.le_of_ble_eq_true rfl)
  rw [lg_entry_eq]
  generalize (lg_sl ([.ref a1]) ++ List.replicate (1 - (lg_sl ([.ref a1])).length) Slot.unset).toArray = ls at hl ⊢
  have hl : lv_has ls 1 [(0, .ref a1)] := hl
  refine lv_aload_n hx hb dX11_countHull_0 rfl (lv_at hl 0 rfl) ?_
  refine va_get (D := (dC, dI)) (ci := 16) (v := .ref a6) (C := RX11) (T := TX11) (N := 10) hx hb hts hin_X11 hown hK hP 0 rfl rfl 4 (by decide) (hts (.fieldLink RX11 40 "Nearestward" "hull" "LNearestward$Hull;") (by decide +kernel)) (fun _ h9 => h9) rfl dX11_countHull_1 ?_
  refine lv_aload_n hx hb dX11_countHull_4 rfl (lv_at hl 0 rfl) ?_
  refine va_get (D := (dC, dI)) (ci := 16) (v := .ref a2) (C := RX11) (T := TX11) (N := 10) hx hb hts hin_X11 hown hK hP 0 rfl rfl 0 (by decide) (hts (.fieldLink RX11 12 "Nearestward" "ground" "LNearestward$Ground;") (by decide +kernel)) (fun _ h9 => h9) rfl dX11_countHull_5 ?_
  have hPc := hP.sub (ws' := [(a2, .inr (10, [.ref a12, .ref a13, .ref a14, .ref a15, .ref a16, .int 0, .int 0])), (a6, .inr (12, [.ref a23, .int 0]))]) [1, 2] rfl
  have hDc := hD.sub (ws' := [(a2, .inr (10, [.ref a12, .ref a13, .ref a14, .ref a15, .ref a16, .int 0, .int 0])), (a6, .inr (12, [.ref a23, .int 0]))]) [1, 2] (by decide) rfl
  have hFc := va_free (wc := [(a2, .inr (10, [.ref a12, .ref a13, .ref a14, .ref a15, .ref a16, .int 0, .int 0])), (a6, .inr (12, [.ref a23, .int 0]))]) hD hS hA [1, 2] rfl
  refine va_callv (va_runV (As := [.ref a2]) (rest := []) ⟨hx, hb, hml, hown, hts⟩ (xcX7_findIn l hst dC dI T a6 a2 a12 a13 a14 a15 a16 a23 s.heap.size) (cwV 1 hts gX11_countHull_X7_findIn rfl rfl rfl (by decide +kernel) ⟨Nat.le_of_ble_eq_true rfl, Nat.le_of_ble_eq_true rfl⟩) ⟨xBlind, va_recv hK hPc (ci := 12) (q0 := 1) rfl rfl, xCall hK hG hS hPc hDc hFc⟩ rfl rfl hl.1 rfl (lv_room (Nat.le_of_ble_eq_true rfl)) dX11_countHull_8 ⟨Nat.le_of_ble_eq_true rfl, Nat.le_of_ble_eq_true rfl⟩) hS (fun q _ h => hFc q h) hFc (fun u t H locs ht hvm hw hB hz1 hk1 hS => ?_)
  rcases hB with ⟨hP1, hD1⟩
  rw [ht] at hP1
  obtain ⟨hP, hD⟩ := va_join (wr := [(a1, .inr (16, [.ref a2, .ref a3, .ref a4, .ref a5, .ref a6, .ref a7, .ref a8, .ref a9, .ref a10, .ref a11]))]) (w1 := [(a2, .inr (10, [.ref a12, .ref a13, .ref a14, .ref a15, .ref a16, .int 0, .int 0])), (a6, .inr (12, [.ref a23, .int 0]))]) hP hD [1, 2] [0] rfl rfl (by decide) (by decide) hk1 hFc hP1 hD1
  have hP : va_P (dC, dI) vwCl [(a1, .inr (16, [.ref a2, .ref a3, .ref a4, .ref a5, .ref a6, .ref a7, .ref a8, .ref a9, .ref a10, .ref a11])), (a2, .inr (10, [.ref a12, .ref a13, .ref a14, .ref a15, .ref a16, .int 0, .int 0])), (a6, .inr (12, [.ref a23, .int 0]))] H := hP
  have hD : va_D A [(a1, .inr (16, [.ref a2, .ref a3, .ref a4, .ref a5, .ref a6, .ref a7, .ref a8, .ref a9, .ref a10, .ref a11])), (a2, .inr (10, [.ref a12, .ref a13, .ref a14, .ref a15, .ref a16, .int 0, .int 0])), (a6, .inr (12, [.ref a23, .int 0]))] := hD
  clear hPc hDc hFc hP1 hD1 hk1 hz1 ht hvm
  refine lv_aload_n hx hb dX11_countHull_11 rfl (lv_at hl 0 rfl) ?_
  refine va_get (D := (dC, dI)) (ci := 16) (v := .ref a6) (C := RX11) (T := TX11) (N := 10) hx hb hts hin_X11 hown hK hP 0 rfl rfl 4 (by decide) (hts (.fieldLink RX11 40 "Nearestward" "hull" "LNearestward$Hull;") (by decide +kernel)) (fun _ h9 => h9) rfl dX11_countHull_12 ?_
  refine va_get (D := (dC, dI)) (ci := 12) (v := .int 0) (C := RX7) (T := TX7) (N := 2) hx hb hts hin_X7 hown hK hP 2 rfl rfl 1 (by decide) (hts (.fieldLink RX11 235 "Nearestward$Hull" "count" "I") (by decide +kernel)) (fun _ h9 => h9) rfl dX11_countHull_15 ?_
  have hP9 := hP.sub (ws' := []) [] rfl
  have hD9 := hD.sub (ws' := []) [] (by decide) rfl
  exact W.iret (v := 0) hx hb hr (fun t ht hW => ⟨⟨_, _, rfl, rfl, ⟨rfl, by rw [ht]; exact hP9, hD9⟩⟩, hS.F ht⟩) hS.2.2 dX11_countHull_18
set_option maxHeartbeats 4000000 in
set_option maxRecDepth 100000 in
theorem xcX11_countPoints (l : Launch) (hst : l.stackTraces = false) (dC : Nat → ClassId) (dI : Nat → Nat → Nat) (T : Nat → ClassId) (a1 : Nat) (a2 : Nat) (a3 : Nat) (a4 : Nat) (a5 : Nat) (a6 : Nat) (a7 : Nat) (a8 : Nat) (a9 : Nat) (a10 : Nat) (a11 : Nat) (a12 : Nat) (a13 : Nat) (a14 : Nat) (a15 : Nat) (a16 : Nat) (sz : Nat) : Met l yX11_countPoints wsX11_countPoints ({ frames := 2, cells := 0, slots := 0, locals := 40 } : Room) (va_Pc [.ref a1] (fun U => xB dC dI T [(a1, .inr (16, [.ref a2, .ref a3, .ref a4, .ref a5, .ref a6, .ref a7, .ref a8, .ref a9, .ref a10, .ref a11])), (a2, .inr (10, [.ref a12, .ref a13, .ref a14, .ref a15, .ref a16, .int 0, .int 0]))] sz U)) (va_Qi (fun (r u : Int32) => r = u) (fun (u : Int32) (t : State) => 0 = u ∧ xE dC dI [] (va_A [(a1, .inr (16, [.ref a2, .ref a3, .ref a4, .ref a5, .ref a6, .ref a7, .ref a8, .ref a9, .ref a10, .ref a11])), (a2, .inr (10, [.ref a12, .ref a13, .ref a14, .ref a15, .ref a16, .int 0, .int 0]))] sz) t) (va_A [(a1, .inr (16, [.ref a2, .ref a3, .ref a4, .ref a5, .ref a6, .ref a7, .ref a8, .ref a9, .ref a10, .ref a11])), (a2, .inr (10, [.ref a12, .ref a13, .ref a14, .ref a15, .ref a16, .int 0, .int 0]))] sz)) 0 0 (va_A [(a1, .inr (16, [.ref a2, .ref a3, .ref a4, .ref a5, .ref a6, .ref a7, .ref a8, .ref a9, .ref a10, .ref a11])), (a2, .inr (10, [.ref a12, .ref a13, .ref a14, .ref a15, .ref a16, .int 0, .int 0]))] sz) := by
  refine Met.ofW (cc := cX11_countPoints) (maxL := 1) (ret := (some .int)) (by decide +kernel) rfl ?_
  intro p e s m args below meth c s₁ B hml hv
  obtain ⟨rfl, hsz, hP, hK, hD0, hG⟩ := hv
  have hx := B.exec
  have hb := B.bytes
  have hr := B.returns
  have hts := atoms_spec (ws := wsX11_countPoints) B.pre
  have hown : s.vm.findClass RX11 = some m.cls := findClass_of_methodNamed B.named
  have hlocks := B.notSynchronized
  have hin_X11 : ∀ w ∈ wsX110, w ∈ wsX11_countPoints := by decide +kernel
  subst hsz
  have hD := hD0.self (sz := s.heap.size)
  generalize hAe : va_A [(a1, .inr (16, [.ref a2, .ref a3, .ref a4, .ref a5, .ref a6, .ref a7, .ref a8, .ref a9, .ref a10, .ref a11])), (a2, .inr (10, [.ref a12, .ref a13, .ref a14, .ref a15, .ref a16, .int 0, .int 0]))] s.heap.size = A at hD hG ⊢
  have hA : ∀ q : Nat, s.heap.size ≤ q → A q := fun q h => by rw [← hAe]; exact Or.inr h
  have hS : va_S A s.heap s.heap [] := va_S.rf
  have hl := lv_entry ([.ref a1]) (n := 1) (Nat.le_of_ble_eq_true rfl)
  rw [lg_entry_eq]
  generalize (lg_sl ([.ref a1]) ++ List.replicate (1 - (lg_sl ([.ref a1])).length) Slot.unset).toArray = ls at hl ⊢
  have hl : lv_has ls 1 [(0, .ref a1)] := hl
  refine lv_aload_n hx hb dX11_countPoints_0 rfl (lv_at hl 0 rfl) ?_
  refine va_get (D := (dC, dI)) (ci := 16) (v := .ref a2) (C := RX11) (T := TX11) (N := 10) hx hb hts hin_X11 hown hK hP 0 rfl rfl 0 (by decide) (hts (.fieldLink RX11 12 "Nearestward" "ground" "LNearestward$Ground;") (by decide +kernel)) (fun _ h9 => h9) rfl dX11_countPoints_1 ?_
  have hPc := hP.sub (ws' := [(a2, .inr (10, [.ref a12, .ref a13, .ref a14, .ref a15, .ref a16, .int 0, .int 0]))]) [1] rfl
  have hDc := hD.sub (ws' := [(a2, .inr (10, [.ref a12, .ref a13, .ref a14, .ref a15, .ref a16, .int 0, .int 0]))]) [1] (by decide) rfl
  have hFc := va_free (wc := [(a2, .inr (10, [.ref a12, .ref a13, .ref a14, .ref a15, .ref a16, .int 0, .int 0]))]) hD hS hA [1] rfl
  refine va_calli (va_runV (As := []) (rest := []) ⟨hx, hb, hml, hown, hts⟩ (xcX5_count l hst dC dI T a2 a12 a13 a14 a15 a16 s.heap.size) (cwV 0 hts gX11_countPoints_X5_count rfl rfl rfl (by decide +kernel) ⟨Nat.le_of_ble_eq_true rfl, Nat.le_of_ble_eq_true rfl⟩) ⟨xBlind, va_recv hK hPc (ci := 10) (q0 := 0) rfl rfl, xCall hK hG hS hPc hDc hFc⟩ rfl rfl hl.1 rfl (lv_room (Nat.le_of_ble_eq_true rfl)) dX11_countPoints_4 ⟨Nat.le_of_ble_eq_true rfl, Nat.le_of_ble_eq_true rfl⟩) hS (fun q _ h => hFc q h) hFc (fun r_9 u t H locs ht hvm hw hB hz1 hk1 hS => ?_)
  subst hw
  rcases hB with ⟨hr_9, hP1, hD1⟩
  rw [ht] at hP1
  subst hr_9
  obtain ⟨hP, hD⟩ := va_join (wr := [(a1, .inr (16, [.ref a2, .ref a3, .ref a4, .ref a5, .ref a6, .ref a7, .ref a8, .ref a9, .ref a10, .ref a11]))]) (w1 := [(a2, .inr (10, [.ref a12, .ref a13, .ref a14, .ref a15, .ref a16, .int 0, .int 0]))]) hP hD [1] [0] rfl rfl (by decide) (by decide) hk1 hFc hP1 hD1
  have hP : va_P (dC, dI) vwCl [(a1, .inr (16, [.ref a2, .ref a3, .ref a4, .ref a5, .ref a6, .ref a7, .ref a8, .ref a9, .ref a10, .ref a11])), (a2, .inr (10, [.ref a12, .ref a13, .ref a14, .ref a15, .ref a16, .int 0, .int 0]))] H := hP
  have hD : va_D A [(a1, .inr (16, [.ref a2, .ref a3, .ref a4, .ref a5, .ref a6, .ref a7, .ref a8, .ref a9, .ref a10, .ref a11])), (a2, .inr (10, [.ref a12, .ref a13, .ref a14, .ref a15, .ref a16, .int 0, .int 0]))] := hD
  clear hPc hDc hFc hP1 hD1 hk1 hz1 ht hvm
  have hP9 := hP.sub (ws' := []) [] rfl
  have hD9 := hD.sub (ws' := []) [] (by decide) rfl
  exact W.iret (v := 0) hx hb hr (fun t ht hW => ⟨⟨_, _, rfl, rfl, ⟨rfl, by rw [ht]; exact hP9, hD9⟩⟩, hS.F ht⟩) hS.2.2 dX11_countPoints_7
set_option maxHeartbeats 4000000 in
set_option maxRecDepth 100000 in
theorem xcX11_countTriangles (l : Launch) (hst : l.stackTraces = false) (dC : Nat → ClassId) (dI : Nat → Nat → Nat) (T : Nat → ClassId) (a1 : Nat) (a2 : Nat) (a3 : Nat) (a4 : Nat) (a5 : Nat) (a6 : Nat) (a7 : Nat) (a8 : Nat) (a9 : Nat) (a10 : Nat) (a11 : Nat) (a12 : Nat) (a13 : Nat) (a14 : Nat) (a15 : Nat) (a16 : Nat) (a18 : Nat) (a19 : Nat) (sz : Nat) : Met l yX11_countTriangles wsX11_countTriangles ({ frames := 3, cells := 0, slots := 0, locals := 65 } : Room) (va_Pc [.ref a1] (fun U => xB dC dI T [(a1, .inr (16, [.ref a2, .ref a3, .ref a4, .ref a5, .ref a6, .ref a7, .ref a8, .ref a9, .ref a10, .ref a11])), (a2, .inr (10, [.ref a12, .ref a13, .ref a14, .ref a15, .ref a16, .int 0, .int 0])), (a4, .inr (8, [.ref a18, .ref a19, .int 0, .int (-1)])), (a19, .inl (T 0, 12, .inl (fun _ => 0)))] sz U)) (va_Qi (fun (r u : Int32) => r = u) (fun (u : Int32) (t : State) => 0 = u ∧ xE dC dI [] (va_A [(a1, .inr (16, [.ref a2, .ref a3, .ref a4, .ref a5, .ref a6, .ref a7, .ref a8, .ref a9, .ref a10, .ref a11])), (a2, .inr (10, [.ref a12, .ref a13, .ref a14, .ref a15, .ref a16, .int 0, .int 0])), (a4, .inr (8, [.ref a18, .ref a19, .int 0, .int (-1)])), (a19, .inl (T 0, 12, .inl (fun _ => 0)))] sz) t) (va_A [(a1, .inr (16, [.ref a2, .ref a3, .ref a4, .ref a5, .ref a6, .ref a7, .ref a8, .ref a9, .ref a10, .ref a11])), (a2, .inr (10, [.ref a12, .ref a13, .ref a14, .ref a15, .ref a16, .int 0, .int 0])), (a4, .inr (8, [.ref a18, .ref a19, .int 0, .int (-1)])), (a19, .inl (T 0, 12, .inl (fun _ => 0)))] sz)) 0 0 (va_A [(a1, .inr (16, [.ref a2, .ref a3, .ref a4, .ref a5, .ref a6, .ref a7, .ref a8, .ref a9, .ref a10, .ref a11])), (a2, .inr (10, [.ref a12, .ref a13, .ref a14, .ref a15, .ref a16, .int 0, .int 0])), (a4, .inr (8, [.ref a18, .ref a19, .int 0, .int (-1)])), (a19, .inl (T 0, 12, .inl (fun _ => 0)))] sz) := by
  refine Met.ofW (cc := cX11_countTriangles) (maxL := 1) (ret := (some .int)) (by decide +kernel) rfl ?_
  intro p e s m args below meth c s₁ B hml hv
  obtain ⟨rfl, hsz, hP, hK, hD0, hG⟩ := hv
  have hx := B.exec
  have hb := B.bytes
  have hr := B.returns
  have hts := atoms_spec (ws := wsX11_countTriangles) B.pre
  have hown : s.vm.findClass RX11 = some m.cls := findClass_of_methodNamed B.named
  have hlocks := B.notSynchronized
  have hin_X11 : ∀ w ∈ wsX110, w ∈ wsX11_countTriangles := by decide +kernel
  have hin_X3 : ∀ w ∈ wsX30, w ∈ wsX11_countTriangles := by decide +kernel
  subst hsz
  have hD := hD0.self (sz := s.heap.size)
  generalize hAe : va_A [(a1, .inr (16, [.ref a2, .ref a3, .ref a4, .ref a5, .ref a6, .ref a7, .ref a8, .ref a9, .ref a10, .ref a11])), (a2, .inr (10, [.ref a12, .ref a13, .ref a14, .ref a15, .ref a16, .int 0, .int 0])), (a4, .inr (8, [.ref a18, .ref a19, .int 0, .int (-1)])), (a19, .inl (T 0, 12, .inl (fun _ => 0)))] s.heap.size = A at hD hG ⊢
  have hA : ∀ q : Nat, s.heap.size ≤ q → A q := fun q h => by rw [← hAe]; exact Or.inr h
  have hS : va_S A s.heap s.heap [] := va_S.rf
  have hl := lv_entry ([.ref a1]) (n := 1) (Nat.le_of_ble_eq_true rfl)
  rw [lg_entry_eq]
  generalize (lg_sl ([.ref a1]) ++ List.replicate (1 - (lg_sl ([.ref a1])).length) Slot.unset).toArray = ls at hl ⊢
  have hl : lv_has ls 1 [(0, .ref a1)] := hl
  refine lv_aload_n hx hb dX11_countTriangles_0 rfl (lv_at hl 0 rfl) ?_
  refine va_get (D := (dC, dI)) (ci := 16) (v := .ref a4) (C := RX11) (T := TX11) (N := 10) hx hb hts hin_X11 hown hK hP 0 rfl rfl 2 (by decide) (hts (.fieldLink RX11 26 "Nearestward" "triangles" "LNearestward$FatTriangles;") (by decide +kernel)) (fun _ h9 => h9) rfl dX11_countTriangles_1 ?_
  refine lv_aload_n hx hb dX11_countTriangles_4 rfl (lv_at hl 0 rfl) ?_
  refine va_get (D := (dC, dI)) (ci := 16) (v := .ref a2) (C := RX11) (T := TX11) (N := 10) hx hb hts hin_X11 hown hK hP 0 rfl rfl 0 (by decide) (hts (.fieldLink RX11 12 "Nearestward" "ground" "LNearestward$Ground;") (by decide +kernel)) (fun _ h9 => h9) rfl dX11_countTriangles_5 ?_
  have hPc := hP.sub (ws' := [(a2, .inr (10, [.ref a12, .ref a13, .ref a14, .ref a15, .ref a16, .int 0, .int 0])), (a4, .inr (8, [.ref a18, .ref a19, .int 0, .int (-1)])), (a19, .inl (T 0, 12, .inl (fun _ => 0)))]) [1, 2, 3] rfl
  have hDc := hD.sub (ws' := [(a2, .inr (10, [.ref a12, .ref a13, .ref a14, .ref a15, .ref a16, .int 0, .int 0])), (a4, .inr (8, [.ref a18, .ref a19, .int 0, .int (-1)])), (a19, .inl (T 0, 12, .inl (fun _ => 0)))]) [1, 2, 3] (by decide) rfl
  have hFc := va_free (wc := [(a2, .inr (10, [.ref a12, .ref a13, .ref a14, .ref a15, .ref a16, .int 0, .int 0])), (a4, .inr (8, [.ref a18, .ref a19, .int 0, .int (-1)])), (a19, .inl (T 0, 12, .inl (fun _ => 0)))]) hD hS hA [1, 2, 3] rfl
  refine va_callv (va_runV (As := [.ref a2]) (rest := []) ⟨hx, hb, hml, hown, hts⟩ (xcX3_findIn l hst dC dI T a4 a2 a12 a13 a14 a15 a16 a18 a19 s.heap.size) (cwV 1 hts gX11_countTriangles_X3_findIn rfl rfl rfl (by decide +kernel) ⟨Nat.le_of_ble_eq_true rfl, Nat.le_of_ble_eq_true rfl⟩) ⟨xBlind, va_recv hK hPc (ci := 8) (q0 := 1) rfl rfl, xCall hK hG hS hPc hDc hFc⟩ rfl rfl hl.1 rfl (lv_room (Nat.le_of_ble_eq_true rfl)) dX11_countTriangles_8 ⟨Nat.le_of_ble_eq_true rfl, Nat.le_of_ble_eq_true rfl⟩) hS (fun q _ h => hFc q h) hFc (fun u t H locs ht hvm hw hB hz1 hk1 hS => ?_)
  rcases hB with ⟨hP1, hD1⟩
  rw [ht] at hP1
  obtain ⟨hP, hD⟩ := va_join (wr := [(a1, .inr (16, [.ref a2, .ref a3, .ref a4, .ref a5, .ref a6, .ref a7, .ref a8, .ref a9, .ref a10, .ref a11]))]) (w1 := [(a2, .inr (10, [.ref a12, .ref a13, .ref a14, .ref a15, .ref a16, .int 0, .int 0])), (a4, .inr (8, [.ref a18, .ref a19, .int 0, .int 0])), (a19, .inl (T 0, 12, .inl (fun _ => 0)))]) hP hD [1, 2, 3] [0] rfl rfl (by decide) (by decide) hk1 hFc hP1 hD1
  have hP : va_P (dC, dI) vwCl [(a1, .inr (16, [.ref a2, .ref a3, .ref a4, .ref a5, .ref a6, .ref a7, .ref a8, .ref a9, .ref a10, .ref a11])), (a2, .inr (10, [.ref a12, .ref a13, .ref a14, .ref a15, .ref a16, .int 0, .int 0])), (a4, .inr (8, [.ref a18, .ref a19, .int 0, .int 0])), (a19, .inl (T 0, 12, .inl (fun _ => 0)))] H := hP
  have hD : va_D A [(a1, .inr (16, [.ref a2, .ref a3, .ref a4, .ref a5, .ref a6, .ref a7, .ref a8, .ref a9, .ref a10, .ref a11])), (a2, .inr (10, [.ref a12, .ref a13, .ref a14, .ref a15, .ref a16, .int 0, .int 0])), (a4, .inr (8, [.ref a18, .ref a19, .int 0, .int 0])), (a19, .inl (T 0, 12, .inl (fun _ => 0)))] := hD
  clear hPc hDc hFc hP1 hD1 hk1 hz1 ht hvm
  refine lv_aload_n hx hb dX11_countTriangles_11 rfl (lv_at hl 0 rfl) ?_
  refine va_get (D := (dC, dI)) (ci := 16) (v := .ref a4) (C := RX11) (T := TX11) (N := 10) hx hb hts hin_X11 hown hK hP 0 rfl rfl 2 (by decide) (hts (.fieldLink RX11 26 "Nearestward" "triangles" "LNearestward$FatTriangles;") (by decide +kernel)) (fun _ h9 => h9) rfl dX11_countTriangles_12 ?_
  refine va_get (D := (dC, dI)) (ci := 8) (v := .int 0) (C := RX3) (T := TX3) (N := 4) hx hb hts hin_X3 hown hK hP 2 rfl rfl 2 (by decide) (hts (.fieldLink RX11 190 "Nearestward$FatTriangles" "count" "I") (by decide +kernel)) (fun _ h9 => h9) rfl dX11_countTriangles_15 ?_
  have hP9 := hP.sub (ws' := []) [] rfl
  have hD9 := hD.sub (ws' := []) [] (by decide) rfl
  exact W.iret (v := 0) hx hb hr (fun t ht hW => ⟨⟨_, _, rfl, rfl, ⟨rfl, by rw [ht]; exact hP9, hD9⟩⟩, hS.F ht⟩) hS.2.2 dX11_countTriangles_18
set_option maxHeartbeats 4000000 in
set_option maxRecDepth 100000 in
theorem xcX7_doubleArea (l : Launch) (hst : l.stackTraces = false) (dC : Nat → ClassId) (dI : Nat → Nat → Nat) (T : Nat → ClassId) (a1 : Nat) (a2 : Nat) (a8 : Nat) (sz : Nat) : Met l yX7_doubleArea wsX7_doubleArea ({ frames := 0, cells := 0, slots := 0, locals := 0 } : Room) (va_Pc [.ref a1, .ref a2] (fun U => xB dC dI T [(a1, .inr (12, [.ref a8, .int 0]))] sz U)) (va_Qi (fun (r u : Int32) => r = u) (fun (u : Int32) (t : State) => 0 = u ∧ xE dC dI [(a1, .inr (12, [.ref a8, .int 0]))] (va_A [(a1, .inr (12, [.ref a8, .int 0]))] sz) t) (va_A [(a1, .inr (12, [.ref a8, .int 0]))] sz)) 0 0 (va_A [(a1, .inr (12, [.ref a8, .int 0]))] sz) := by
  refine Met.ofW (cc := cX7_doubleArea) (maxL := 4) (ret := (some .int)) (by decide +kernel) rfl ?_
  intro p e s m args below meth c s₁ B hml hv
  obtain ⟨rfl, hsz, hP, hK, hD0, hG⟩ := hv
  have hx := B.exec
  have hb := B.bytes
  have hr := B.returns
  have hts := atoms_spec (ws := wsX7_doubleArea) B.pre
  have hown : s.vm.findClass RX7 = some m.cls := findClass_of_methodNamed B.named
  have hlocks := B.notSynchronized
  have hin_X7 : ∀ w ∈ wsX70, w ∈ wsX7_doubleArea := by decide +kernel
  subst hsz
  have hD := hD0.self (sz := s.heap.size)
  generalize hAe : va_A [(a1, .inr (12, [.ref a8, .int 0]))] s.heap.size = A at hD hG ⊢
  have hA : ∀ q : Nat, s.heap.size ≤ q → A q := fun q h => by rw [← hAe]; exact Or.inr h
  have hS : va_S A s.heap s.heap [] := va_S.rf
  have hl := lv_entry ([.ref a1, .ref a2]) (n := 4) (Nat.le_of_ble_eq_true rfl)
  rw [lg_entry_eq]
  generalize (lg_sl ([.ref a1, .ref a2]) ++ List.replicate (4 - (lg_sl ([.ref a1, .ref a2])).length) Slot.unset).toArray = ls at hl ⊢
  have hl : lv_has ls 4 [(0, .ref a1), (1, .ref a2)] := hl
  refine lv_iconst (v := 0) hx hb dX7_doubleArea_0 (by decide) ?_
  refine lv_istore_n (lv' := [(2, .int 0), (0, .ref a1), (1, .ref a2)]) hx hb dX7_doubleArea_1 rfl hl (by decide) rfl (fun ls hl => ?_)
  refine lv_iconst (v := 1) hx hb dX7_doubleArea_2 (by decide) ?_
  refine lv_istore_n (lv' := [(3, .int 1), (2, .int 0), (0, .ref a1), (1, .ref a2)]) hx hb dX7_doubleArea_3 rfl hl (by decide) rfl (fun ls hl => ?_)
  refine lv_iload_n hx hb dX7_doubleArea_4 rfl (lv_at hl 0 rfl) ?_
  refine lv_iconst (v := 1) hx hb dX7_doubleArea_5 (by decide) ?_
  refine lv_iadd hx hb dX7_doubleArea_6 ?_
  refine lv_topi (fun f_1 ef_1 => ?_)
  obtain rfl : f_1 = 2 := ef_1.trans (by decide)
  refine lv_aload_n hx hb dX7_doubleArea_7 rfl (lv_at hl 2 rfl) ?_
  refine va_get (D := (dC, dI)) (ci := 12) (v := .int 0) (C := RX7) (T := TX7) (N := 2) hx hb hts hin_X7 hown hK hP 0 rfl rfl 1 (by decide) (hts (.fieldLink RX7 15 "Nearestward$Hull" "count" "I") (by decide +kernel)) (fun _ h9 => h9) rfl dX7_doubleArea_8 ?_
  refine lv_icmp_ge (tgt := 55) hx hb dX7_doubleArea_11 (by decide) (fun c_2 => ?_) (fun c_2 => absurd (by decide) c_2)
  refine lv_iload_n hx hb dX7_doubleArea_55 rfl (lv_at hl 1 rfl) ?_
  have hP9 := hP.sub (ws' := [(a1, .inr (12, [.ref a8, .int 0]))]) [0] rfl
  have hD9 := hD.sub (ws' := [(a1, .inr (12, [.ref a8, .int 0]))]) [0] (by decide) rfl
  exact W.iret (v := 0) hx hb hr (fun t ht hW => ⟨⟨_, _, rfl, rfl, ⟨rfl, by rw [ht]; exact hP9, hD9⟩⟩, hS.F ht⟩) hS.2.2 dX7_doubleArea_56
set_option maxHeartbeats 4000000 in
set_option maxRecDepth 100000 in
theorem xcX11_hullArea (l : Launch) (hst : l.stackTraces = false) (dC : Nat → ClassId) (dI : Nat → Nat → Nat) (T : Nat → ClassId) (a1 : Nat) (a2 : Nat) (a3 : Nat) (a4 : Nat) (a5 : Nat) (a6 : Nat) (a7 : Nat) (a8 : Nat) (a9 : Nat) (a10 : Nat) (a11 : Nat) (a12 : Nat) (a13 : Nat) (a14 : Nat) (a15 : Nat) (a16 : Nat) (a23 : Nat) (sz : Nat) : Met l yX11_hullArea wsX11_hullArea ({ frames := 4, cells := 0, slots := 0, locals := 88 } : Room) (va_Pc [.ref a1] (fun U => xB dC dI T [(a1, .inr (16, [.ref a2, .ref a3, .ref a4, .ref a5, .ref a6, .ref a7, .ref a8, .ref a9, .ref a10, .ref a11])), (a2, .inr (10, [.ref a12, .ref a13, .ref a14, .ref a15, .ref a16, .int 0, .int 0])), (a6, .inr (12, [.ref a23, .int 0]))] sz U)) (va_Qi (fun (r u : Int32) => r = u) (fun (u : Int32) (t : State) => 0 = u ∧ xE dC dI [] (va_A [(a1, .inr (16, [.ref a2, .ref a3, .ref a4, .ref a5, .ref a6, .ref a7, .ref a8, .ref a9, .ref a10, .ref a11])), (a2, .inr (10, [.ref a12, .ref a13, .ref a14, .ref a15, .ref a16, .int 0, .int 0])), (a6, .inr (12, [.ref a23, .int 0]))] sz) t) (va_A [(a1, .inr (16, [.ref a2, .ref a3, .ref a4, .ref a5, .ref a6, .ref a7, .ref a8, .ref a9, .ref a10, .ref a11])), (a2, .inr (10, [.ref a12, .ref a13, .ref a14, .ref a15, .ref a16, .int 0, .int 0])), (a6, .inr (12, [.ref a23, .int 0]))] sz)) 0 0 (va_A [(a1, .inr (16, [.ref a2, .ref a3, .ref a4, .ref a5, .ref a6, .ref a7, .ref a8, .ref a9, .ref a10, .ref a11])), (a2, .inr (10, [.ref a12, .ref a13, .ref a14, .ref a15, .ref a16, .int 0, .int 0])), (a6, .inr (12, [.ref a23, .int 0]))] sz) := by
  refine Met.ofW (cc := cX11_hullArea) (maxL := 1) (ret := (some .int)) (by decide +kernel) rfl ?_
  intro p e s m args below meth c s₁ B hml hv
  obtain ⟨rfl, hsz, hP, hK, hD0, hG⟩ := hv
  have hx := B.exec
  have hb := B.bytes
  have hr := B.returns
  have hts := atoms_spec (ws := wsX11_hullArea) B.pre
  have hown : s.vm.findClass RX11 = some m.cls := findClass_of_methodNamed B.named
  have hlocks := B.notSynchronized
  have hin_X11 : ∀ w ∈ wsX110, w ∈ wsX11_hullArea := by decide +kernel
  subst hsz
  have hD := hD0.self (sz := s.heap.size)
  generalize hAe : va_A [(a1, .inr (16, [.ref a2, .ref a3, .ref a4, .ref a5, .ref a6, .ref a7, .ref a8, .ref a9, .ref a10, .ref a11])), (a2, .inr (10, [.ref a12, .ref a13, .ref a14, .ref a15, .ref a16, .int 0, .int 0])), (a6, .inr (12, [.ref a23, .int 0]))] s.heap.size = A at hD hG ⊢
  have hA : ∀ q : Nat, s.heap.size ≤ q → A q := fun q h => by rw [← hAe]; exact Or.inr h
  have hS : va_S A s.heap s.heap [] := va_S.rf
  have hl := lv_entry ([.ref a1]) (n := 1) (Nat.le_of_ble_eq_true rfl)
  rw [lg_entry_eq]
  generalize (lg_sl ([.ref a1]) ++ List.replicate (1 - (lg_sl ([.ref a1])).length) Slot.unset).toArray = ls at hl ⊢
  have hl : lv_has ls 1 [(0, .ref a1)] := hl
  refine lv_aload_n hx hb dX11_hullArea_0 rfl (lv_at hl 0 rfl) ?_
  refine va_get (D := (dC, dI)) (ci := 16) (v := .ref a6) (C := RX11) (T := TX11) (N := 10) hx hb hts hin_X11 hown hK hP 0 rfl rfl 4 (by decide) (hts (.fieldLink RX11 40 "Nearestward" "hull" "LNearestward$Hull;") (by decide +kernel)) (fun _ h9 => h9) rfl dX11_hullArea_1 ?_
  refine lv_aload_n hx hb dX11_hullArea_4 rfl (lv_at hl 0 rfl) ?_
  refine va_get (D := (dC, dI)) (ci := 16) (v := .ref a2) (C := RX11) (T := TX11) (N := 10) hx hb hts hin_X11 hown hK hP 0 rfl rfl 0 (by decide) (hts (.fieldLink RX11 12 "Nearestward" "ground" "LNearestward$Ground;") (by decide +kernel)) (fun _ h9 => h9) rfl dX11_hullArea_5 ?_
  have hPc := hP.sub (ws' := [(a2, .inr (10, [.ref a12, .ref a13, .ref a14, .ref a15, .ref a16, .int 0, .int 0])), (a6, .inr (12, [.ref a23, .int 0]))]) [1, 2] rfl
  have hDc := hD.sub (ws' := [(a2, .inr (10, [.ref a12, .ref a13, .ref a14, .ref a15, .ref a16, .int 0, .int 0])), (a6, .inr (12, [.ref a23, .int 0]))]) [1, 2] (by decide) rfl
  have hFc := va_free (wc := [(a2, .inr (10, [.ref a12, .ref a13, .ref a14, .ref a15, .ref a16, .int 0, .int 0])), (a6, .inr (12, [.ref a23, .int 0]))]) hD hS hA [1, 2] rfl
  refine va_callv (va_runV (As := [.ref a2]) (rest := []) ⟨hx, hb, hml, hown, hts⟩ (xcX7_findIn l hst dC dI T a6 a2 a12 a13 a14 a15 a16 a23 s.heap.size) (cwV 1 hts gX11_hullArea_X7_findIn rfl rfl rfl (by decide +kernel) ⟨Nat.le_of_ble_eq_true rfl, Nat.le_of_ble_eq_true rfl⟩) ⟨xBlind, va_recv hK hPc (ci := 12) (q0 := 1) rfl rfl, xCall hK hG hS hPc hDc hFc⟩ rfl rfl hl.1 rfl (lv_room (Nat.le_of_ble_eq_true rfl)) dX11_hullArea_8 ⟨Nat.le_of_ble_eq_true rfl, Nat.le_of_ble_eq_true rfl⟩) hS (fun q _ h => hFc q h) hFc (fun u t H locs ht hvm hw hB hz1 hk1 hS => ?_)
  rcases hB with ⟨hP1, hD1⟩
  rw [ht] at hP1
  obtain ⟨hP, hD⟩ := va_join (wr := [(a1, .inr (16, [.ref a2, .ref a3, .ref a4, .ref a5, .ref a6, .ref a7, .ref a8, .ref a9, .ref a10, .ref a11]))]) (w1 := [(a2, .inr (10, [.ref a12, .ref a13, .ref a14, .ref a15, .ref a16, .int 0, .int 0])), (a6, .inr (12, [.ref a23, .int 0]))]) hP hD [1, 2] [0] rfl rfl (by decide) (by decide) hk1 hFc hP1 hD1
  have hP : va_P (dC, dI) vwCl [(a1, .inr (16, [.ref a2, .ref a3, .ref a4, .ref a5, .ref a6, .ref a7, .ref a8, .ref a9, .ref a10, .ref a11])), (a2, .inr (10, [.ref a12, .ref a13, .ref a14, .ref a15, .ref a16, .int 0, .int 0])), (a6, .inr (12, [.ref a23, .int 0]))] H := hP
  have hD : va_D A [(a1, .inr (16, [.ref a2, .ref a3, .ref a4, .ref a5, .ref a6, .ref a7, .ref a8, .ref a9, .ref a10, .ref a11])), (a2, .inr (10, [.ref a12, .ref a13, .ref a14, .ref a15, .ref a16, .int 0, .int 0])), (a6, .inr (12, [.ref a23, .int 0]))] := hD
  clear hPc hDc hFc hP1 hD1 hk1 hz1 ht hvm
  refine lv_aload_n hx hb dX11_hullArea_11 rfl (lv_at hl 0 rfl) ?_
  refine va_get (D := (dC, dI)) (ci := 16) (v := .ref a6) (C := RX11) (T := TX11) (N := 10) hx hb hts hin_X11 hown hK hP 0 rfl rfl 4 (by decide) (hts (.fieldLink RX11 40 "Nearestward" "hull" "LNearestward$Hull;") (by decide +kernel)) (fun _ h9 => h9) rfl dX11_hullArea_12 ?_
  refine lv_aload_n hx hb dX11_hullArea_15 rfl (lv_at hl 0 rfl) ?_
  refine va_get (D := (dC, dI)) (ci := 16) (v := .ref a2) (C := RX11) (T := TX11) (N := 10) hx hb hts hin_X11 hown hK hP 0 rfl rfl 0 (by decide) (hts (.fieldLink RX11 12 "Nearestward" "ground" "LNearestward$Ground;") (by decide +kernel)) (fun _ h9 => h9) rfl dX11_hullArea_16 ?_
  have hPc := hP.sub (ws' := [(a6, .inr (12, [.ref a23, .int 0]))]) [2] rfl
  have hDc := hD.sub (ws' := [(a6, .inr (12, [.ref a23, .int 0]))]) [2] (by decide) rfl
  have hFc := va_free (wc := [(a6, .inr (12, [.ref a23, .int 0]))]) hD hS hA [2] rfl
  refine va_calli (va_runV (As := [.ref a2]) (rest := []) ⟨hx, hb, hml, hown, hts⟩ (xcX7_doubleArea l hst dC dI T a6 a2 a23 H.size) (cwV 1 hts gX11_hullArea_X7_doubleArea rfl rfl rfl (by decide +kernel) ⟨Nat.le_of_ble_eq_true rfl, Nat.le_of_ble_eq_true rfl⟩) ⟨xBlind, va_recv hK hPc (ci := 12) (q0 := 0) rfl rfl, xCall hK hG hS hPc hDc hFc⟩ rfl rfl hl.1 rfl (lv_room (Nat.le_of_ble_eq_true rfl)) dX11_hullArea_19 ⟨Nat.le_of_ble_eq_true rfl, Nat.le_of_ble_eq_true rfl⟩) hS (fun q _ h => hFc q h) hFc (fun r_9 u t H locs ht hvm hw hB hz1 hk1 hS => ?_)
  subst hw
  rcases hB with ⟨hr_9, hP1, hD1⟩
  rw [ht] at hP1
  subst hr_9
  obtain ⟨hP, hD⟩ := va_join (wr := [(a1, .inr (16, [.ref a2, .ref a3, .ref a4, .ref a5, .ref a6, .ref a7, .ref a8, .ref a9, .ref a10, .ref a11])), (a2, .inr (10, [.ref a12, .ref a13, .ref a14, .ref a15, .ref a16, .int 0, .int 0]))]) (w1 := [(a6, .inr (12, [.ref a23, .int 0]))]) hP hD [2] [0, 1] rfl rfl (by decide) (by decide) hk1 hFc hP1 hD1
  have hP : va_P (dC, dI) vwCl [(a1, .inr (16, [.ref a2, .ref a3, .ref a4, .ref a5, .ref a6, .ref a7, .ref a8, .ref a9, .ref a10, .ref a11])), (a2, .inr (10, [.ref a12, .ref a13, .ref a14, .ref a15, .ref a16, .int 0, .int 0])), (a6, .inr (12, [.ref a23, .int 0]))] H := hP
  have hD : va_D A [(a1, .inr (16, [.ref a2, .ref a3, .ref a4, .ref a5, .ref a6, .ref a7, .ref a8, .ref a9, .ref a10, .ref a11])), (a2, .inr (10, [.ref a12, .ref a13, .ref a14, .ref a15, .ref a16, .int 0, .int 0])), (a6, .inr (12, [.ref a23, .int 0]))] := hD
  clear hPc hDc hFc hP1 hD1 hk1 hz1 ht hvm
  have hP9 := hP.sub (ws' := []) [] rfl
  have hD9 := hD.sub (ws' := []) [] (by decide) rfl
  exact W.iret (v := 0) hx hb hr (fun t ht hW => ⟨⟨_, _, rfl, rfl, ⟨rfl, by rw [ht]; exact hP9, hD9⟩⟩, hS.F ht⟩) hS.2.2 dX11_hullArea_22
set_option maxHeartbeats 4000000 in
set_option maxRecDepth 100000 in
theorem xcX11_circlesAreEmpty (l : Launch) (hst : l.stackTraces = false) (dC : Nat → ClassId) (dI : Nat → Nat → Nat) (T : Nat → ClassId) (a1 : Nat) (a2 : Nat) (a3 : Nat) (a4 : Nat) (a5 : Nat) (a6 : Nat) (a7 : Nat) (a8 : Nat) (a9 : Nat) (a10 : Nat) (a11 : Nat) (a18 : Nat) (a19 : Nat) (sz : Nat) : Met l yX11_circlesAreEmpty wsX11_circlesAreEmpty ({ frames := 0, cells := 0, slots := 0, locals := 0 } : Room) (va_Pc [.ref a1] (fun U => xB dC dI T [(a1, .inr (16, [.ref a2, .ref a3, .ref a4, .ref a5, .ref a6, .ref a7, .ref a8, .ref a9, .ref a10, .ref a11])), (a4, .inr (8, [.ref a18, .ref a19, .int 0, .int 0]))] sz U)) (va_Qi (fun (r u : Int32) => r = u) (fun (u : Int32) (t : State) => 1 = u ∧ xE dC dI [(a1, .inr (16, [.ref a2, .ref a3, .ref a4, .ref a5, .ref a6, .ref a7, .ref a8, .ref a9, .ref a10, .ref a11])), (a4, .inr (8, [.ref a18, .ref a19, .int 0, .int 0]))] (va_A [(a1, .inr (16, [.ref a2, .ref a3, .ref a4, .ref a5, .ref a6, .ref a7, .ref a8, .ref a9, .ref a10, .ref a11])), (a4, .inr (8, [.ref a18, .ref a19, .int 0, .int 0]))] sz) t) (va_A [(a1, .inr (16, [.ref a2, .ref a3, .ref a4, .ref a5, .ref a6, .ref a7, .ref a8, .ref a9, .ref a10, .ref a11])), (a4, .inr (8, [.ref a18, .ref a19, .int 0, .int 0]))] sz)) 0 0 (va_A [(a1, .inr (16, [.ref a2, .ref a3, .ref a4, .ref a5, .ref a6, .ref a7, .ref a8, .ref a9, .ref a10, .ref a11])), (a4, .inr (8, [.ref a18, .ref a19, .int 0, .int 0]))] sz) := by
  refine Met.ofW (cc := cX11_circlesAreEmpty) (maxL := 3) (ret := (some .boolean)) (by decide +kernel) rfl ?_
  intro p e s m args below meth c s₁ B hml hv
  obtain ⟨rfl, hsz, hP, hK, hD0, hG⟩ := hv
  have hx := B.exec
  have hb := B.bytes
  have hr := B.returns
  have hts := atoms_spec (ws := wsX11_circlesAreEmpty) B.pre
  have hown : s.vm.findClass RX11 = some m.cls := findClass_of_methodNamed B.named
  have hlocks := B.notSynchronized
  have hin_X11 : ∀ w ∈ wsX110, w ∈ wsX11_circlesAreEmpty := by decide +kernel
  have hin_X3 : ∀ w ∈ wsX30, w ∈ wsX11_circlesAreEmpty := by decide +kernel
  subst hsz
  have hD := hD0.self (sz := s.heap.size)
  generalize hAe : va_A [(a1, .inr (16, [.ref a2, .ref a3, .ref a4, .ref a5, .ref a6, .ref a7, .ref a8, .ref a9, .ref a10, .ref a11])), (a4, .inr (8, [.ref a18, .ref a19, .int 0, .int 0]))] s.heap.size = A at hD hG ⊢
  have hA : ∀ q : Nat, s.heap.size ≤ q → A q := fun q h => by rw [← hAe]; exact Or.inr h
  have hS : va_S A s.heap s.heap [] := va_S.rf
  have hl := lv_entry ([.ref a1]) (n := 3) (Nat.le_of_ble_eq_true rfl)
  rw [lg_entry_eq]
  generalize (lg_sl ([.ref a1]) ++ List.replicate (3 - (lg_sl ([.ref a1])).length) Slot.unset).toArray = ls at hl ⊢
  have hl : lv_has ls 3 [(0, .ref a1)] := hl
  refine lv_iconst (v := 0) hx hb dX11_circlesAreEmpty_0 (by decide) ?_
  refine lv_istore_n (lv' := [(1, .int 0), (0, .ref a1)]) hx hb dX11_circlesAreEmpty_1 rfl hl (by decide) rfl (fun ls hl => ?_)
  refine lv_iload_n hx hb dX11_circlesAreEmpty_2 rfl (lv_at hl 0 rfl) ?_
  refine lv_aload_n hx hb dX11_circlesAreEmpty_3 rfl (lv_at hl 1 rfl) ?_
  refine va_get (D := (dC, dI)) (ci := 16) (v := .ref a4) (C := RX11) (T := TX11) (N := 10) hx hb hts hin_X11 hown hK hP 0 rfl rfl 2 (by decide) (hts (.fieldLink RX11 26 "Nearestward" "triangles" "LNearestward$FatTriangles;") (by decide +kernel)) (fun _ h9 => h9) rfl dX11_circlesAreEmpty_4 ?_
  refine va_get (D := (dC, dI)) (ci := 8) (v := .int 0) (C := RX3) (T := TX3) (N := 4) hx hb hts hin_X3 hown hK hP 1 rfl rfl 2 (by decide) (hts (.fieldLink RX11 190 "Nearestward$FatTriangles" "count" "I") (by decide +kernel)) (fun _ h9 => h9) rfl dX11_circlesAreEmpty_7 ?_
  refine lv_icmp_ge (tgt := 62) hx hb dX11_circlesAreEmpty_10 (by decide) (fun c_1 => ?_) (fun c_1 => absurd (by decide) c_1)
  refine lv_iconst (v := 1) hx hb dX11_circlesAreEmpty_62 (by decide) ?_
  have hP9 := hP.sub (ws' := [(a1, .inr (16, [.ref a2, .ref a3, .ref a4, .ref a5, .ref a6, .ref a7, .ref a8, .ref a9, .ref a10, .ref a11])), (a4, .inr (8, [.ref a18, .ref a19, .int 0, .int 0]))]) [0, 1] rfl
  have hD9 := hD.sub (ws' := [(a1, .inr (16, [.ref a2, .ref a3, .ref a4, .ref a5, .ref a6, .ref a7, .ref a8, .ref a9, .ref a10, .ref a11])), (a4, .inr (8, [.ref a18, .ref a19, .int 0, .int 0]))]) [0, 1] (by decide) rfl
  exact W.zret (v := 1) hx hb hr (by decide) (fun t ht hW => ⟨⟨_, _, rfl, rfl, ⟨rfl, by rw [ht]; exact hP9, hD9⟩⟩, hS.F ht⟩) hS.2.2 dX11_circlesAreEmpty_63
set_option maxHeartbeats 4000000 in
set_option maxRecDepth 100000 in
theorem xcX5_someTurn (l : Launch) (hst : l.stackTraces = false) (dC : Nat → ClassId) (dI : Nat → Nat → Nat) (T : Nat → ClassId) (a1 : Nat) (a2 : Nat) (a3 : Nat) (a4 : Nat) (a5 : Nat) (a6 : Nat) (sz : Nat) : Met l yX5_someTurn wsX5_someTurn ({ frames := 2, cells := 0, slots := 0, locals := 42 } : Room) (va_Pc [.ref a1] (fun U => xB dC dI T [(a1, .inr (10, [.ref a2, .ref a3, .ref a4, .ref a5, .ref a6, .int 0, .int 0]))] sz U)) (va_Qi (fun (r u : Int32) => r = u) (fun (u : Int32) (t : State) => 0 = u ∧ xE dC dI [(a1, .inr (10, [.ref a2, .ref a3, .ref a4, .ref a5, .ref a6, .int 0, .int 0]))] (va_A [(a1, .inr (10, [.ref a2, .ref a3, .ref a4, .ref a5, .ref a6, .int 0, .int 0]))] sz) t) (va_A [(a1, .inr (10, [.ref a2, .ref a3, .ref a4, .ref a5, .ref a6, .int 0, .int 0]))] sz)) 0 0 (va_A [(a1, .inr (10, [.ref a2, .ref a3, .ref a4, .ref a5, .ref a6, .int 0, .int 0]))] sz) := by
  refine Met.ofW (cc := cX5_someTurn) (maxL := 4) (ret := (some .boolean)) (by decide +kernel) rfl ?_
  intro p e s m args below meth c s₁ B hml hv
  obtain ⟨rfl, hsz, hP, hK, hD0, hG⟩ := hv
  have hx := B.exec
  have hb := B.bytes
  have hr := B.returns
  have hts := atoms_spec (ws := wsX5_someTurn) B.pre
  have hown : s.vm.findClass RX5 = some m.cls := findClass_of_methodNamed B.named
  have hlocks := B.notSynchronized
  subst hsz
  have hD := hD0.self (sz := s.heap.size)
  generalize hAe : va_A [(a1, .inr (10, [.ref a2, .ref a3, .ref a4, .ref a5, .ref a6, .int 0, .int 0]))] s.heap.size = A at hD hG ⊢
  have hA : ∀ q : Nat, s.heap.size ≤ q → A q := fun q h => by rw [← hAe]; exact Or.inr h
  have hS : va_S A s.heap s.heap [] := va_S.rf
  have hl := lv_entry ([.ref a1]) (n := 4) (Nat.le_of_ble_eq_true rfl)
  rw [lg_entry_eq]
  generalize (lg_sl ([.ref a1]) ++ List.replicate (4 - (lg_sl ([.ref a1])).length) Slot.unset).toArray = ls at hl ⊢
  have hl : lv_has ls 4 [(0, .ref a1)] := hl
  refine lv_iconst (v := (-1)) hx hb dX5_someTurn_0 (by decide) ?_
  refine lv_istore_n (lv' := [(1, .int (-1)), (0, .ref a1)]) hx hb dX5_someTurn_1 rfl hl (by decide) rfl (fun ls hl => ?_)
  refine lv_iconst (v := (-1)) hx hb dX5_someTurn_2 (by decide) ?_
  refine lv_istore_n (lv' := [(2, .int (-1)), (1, .int (-1)), (0, .ref a1)]) hx hb dX5_someTurn_3 rfl hl (by decide) rfl (fun ls hl => ?_)
  refine lv_iconst (v := 0) hx hb dX5_someTurn_4 (by decide) ?_
  refine lv_istore_n (lv' := [(3, .int 0), (2, .int (-1)), (1, .int (-1)), (0, .ref a1)]) hx hb dX5_someTurn_5 rfl hl (by decide) rfl (fun ls hl => ?_)
  refine xLoop (P := fun i_k_1 H locs ls => va_P (dC, dI) vwCl [(a1, .inr (10, [.ref a2, .ref a3, .ref a4, .ref a5, .ref a6, .int 0, .int 0]))] H ∧ va_D A [(a1, .inr (10, [.ref a2, .ref a3, .ref a4, .ref a5, .ref a6, .int 0, .int 0]))] ∧ va_S A s.heap H locs ∧ lv_has ls 4 [(3, .int (nI i_k_1)), (2, .int (-1)), (1, .int (-1)), (0, .ref a1)]) (N := 12) (fun i_k_1 H locs ls hi_k_1 hI ih_k_1 => ?_) (0) _ _ _ (by omega) ⟨hP, hD, hS, lv_sub hl [0, 1, 2, 3] rfl⟩
  obtain ⟨hP, hD, hS, hl⟩ := hI
  refine lv_iload_n hx hb dX5_someTurn_6 rfl (lv_at hl 0 rfl) ?_
  refine lv_bipush (v := 12) hx hb dX5_someTurn_7 (by decide) ?_
  have hz_3 : (nI i_k_1).toInt = ((i_k_1 : Nat) : Int) := nI_toInt (by omega)
  refine lv_icmp_ge (tgt := 61) hx hb dX5_someTurn_9 (by decide) (fun c_2 => ?_) (fun c_2 => ?_)
  · have nc_2 : 12 ≤ (nI i_k_1).toInt := (xi_le (by decide +kernel) rfl).mp c_2
    refine lv_iconst (v := 0) hx hb dX5_someTurn_61 (by decide) ?_
    have hP9 := hP.sub (ws' := [(a1, .inr (10, [.ref a2, .ref a3, .ref a4, .ref a5, .ref a6, .int 0, .int 0]))]) [0] rfl
    have hD9 := hD.sub (ws' := [(a1, .inr (10, [.ref a2, .ref a3, .ref a4, .ref a5, .ref a6, .int 0, .int 0]))]) [0] (by decide) rfl
    exact W.zret (v := 0) hx hb hr (by decide) (fun t ht hW => ⟨⟨_, _, rfl, rfl, ⟨rfl, by rw [ht]; exact hP9, hD9⟩⟩, hS.F ht⟩) hS.2.2 dX5_someTurn_62
  · have nc_2 : ¬ (12 ≤ (nI i_k_1).toInt) := mt (xi_le (by decide +kernel) rfl).mpr c_2
    refine lv_aload_n hx hb dX5_someTurn_12 rfl (lv_at hl 3 rfl) ?_
    refine lv_iload_n hx hb dX5_someTurn_13 rfl (lv_at hl 0 rfl) ?_
    have hPc := hP.sub (ws' := [(a1, .inr (10, [.ref a2, .ref a3, .ref a4, .ref a5, .ref a6, .int 0, .int 0]))]) [0] rfl
    have hDc := hD.sub (ws' := [(a1, .inr (10, [.ref a2, .ref a3, .ref a4, .ref a5, .ref a6, .int 0, .int 0]))]) [0] (by decide) rfl
    have hFc := va_free (wc := [(a1, .inr (10, [.ref a2, .ref a3, .ref a4, .ref a5, .ref a6, .int 0, .int 0]))]) hD hS hA [0] rfl
    refine va_calli (va_runV (As := [.int (nI i_k_1)]) (rest := []) ⟨hx, hb, hml, hown, hts⟩ (xcX5_has l hst dC dI T a1 a2 a3 a4 a5 a6 H.size (nI i_k_1)) (cwV 1 hts gX5_someTurn_X5_has rfl rfl rfl (by decide +kernel) ⟨Nat.le_of_ble_eq_true rfl, Nat.le_of_ble_eq_true rfl⟩) ⟨xBlind, va_recv hK hPc (ci := 10) (q0 := 0) rfl rfl, xCall hK hG hS hPc hDc hFc⟩ rfl rfl hl.1 rfl (lv_room (Nat.le_of_ble_eq_true rfl)) dX5_someTurn_14 ⟨Nat.le_of_ble_eq_true rfl, Nat.le_of_ble_eq_true rfl⟩) hS (fun q _ h => hFc q h) hFc (fun r_9 u t H locs ht hvm hw hB hz1 hk1 hS => ?_)
    subst hw
    rcases hB with ⟨hr_9, hP1, hD1⟩
    rw [ht] at hP1
    subst hr_9
    obtain ⟨hP, hD⟩ := va_join (wr := []) (w1 := [(a1, .inr (10, [.ref a2, .ref a3, .ref a4, .ref a5, .ref a6, .int 0, .int 0]))]) hP hD [0] [] rfl rfl (by decide) (by decide) hk1 hFc hP1 hD1
    have hP : va_P (dC, dI) vwCl [(a1, .inr (10, [.ref a2, .ref a3, .ref a4, .ref a5, .ref a6, .int 0, .int 0]))] H := hP
    have hD : va_D A [(a1, .inr (10, [.ref a2, .ref a3, .ref a4, .ref a5, .ref a6, .int 0, .int 0]))] := hD
    clear hPc hDc hFc hP1 hD1 hk1 hz1 ht hvm
    refine lv_if_ne (tgt := 23) hx hb dX5_someTurn_17 (by decide) (fun c_5 => absurd c_5 (by decide)) (fun c_5 => ?_)
    refine lv_goto (tgt := 55) hx hb dX5_someTurn_20 (by decide) ?_
    refine lv_iinc (v := (nI (i_k_1 + 1))) (lv' := [(3, .int (nI (i_k_1 + 1))), (2, .int (-1)), (1, .int (-1)), (0, .ref a1)]) hx hb dX5_someTurn_55 hl (k := 0) rfl (nI_1 _) (by decide) rfl (fun ls hl => ?_)
    refine lv_goto (tgt := 6) hx hb dX5_someTurn_58 (by decide) ?_
    exact ih_k_1 _ _ _ (by omega) ⟨hP, hD, hS, lv_sub hl [0, 1, 2, 3] rfl⟩
set_option maxHeartbeats 4000000 in
set_option maxRecDepth 100000 in
theorem xcX11_countsFit (l : Launch) (hst : l.stackTraces = false) (dC : Nat → ClassId) (dI : Nat → Nat → Nat) (T : Nat → ClassId) (a1 : Nat) (a2 : Nat) (a3 : Nat) (a4 : Nat) (a5 : Nat) (a6 : Nat) (a7 : Nat) (a8 : Nat) (a9 : Nat) (a10 : Nat) (a11 : Nat) (a12 : Nat) (a13 : Nat) (a14 : Nat) (a15 : Nat) (a16 : Nat) (sz : Nat) : Met l yX11_countsFit wsX11_countsFit ({ frames := 3, cells := 0, slots := 0, locals := 65 } : Room) (va_Pc [.ref a1] (fun U => xB dC dI T [(a1, .inr (16, [.ref a2, .ref a3, .ref a4, .ref a5, .ref a6, .ref a7, .ref a8, .ref a9, .ref a10, .ref a11])), (a2, .inr (10, [.ref a12, .ref a13, .ref a14, .ref a15, .ref a16, .int 0, .int 0]))] sz U)) (va_Qi (fun (r u : Int32) => r = u) (fun (u : Int32) (t : State) => 1 = u ∧ xE dC dI [(a1, .inr (16, [.ref a2, .ref a3, .ref a4, .ref a5, .ref a6, .ref a7, .ref a8, .ref a9, .ref a10, .ref a11])), (a2, .inr (10, [.ref a12, .ref a13, .ref a14, .ref a15, .ref a16, .int 0, .int 0]))] (va_A [(a1, .inr (16, [.ref a2, .ref a3, .ref a4, .ref a5, .ref a6, .ref a7, .ref a8, .ref a9, .ref a10, .ref a11])), (a2, .inr (10, [.ref a12, .ref a13, .ref a14, .ref a15, .ref a16, .int 0, .int 0]))] sz) t) (va_A [(a1, .inr (16, [.ref a2, .ref a3, .ref a4, .ref a5, .ref a6, .ref a7, .ref a8, .ref a9, .ref a10, .ref a11])), (a2, .inr (10, [.ref a12, .ref a13, .ref a14, .ref a15, .ref a16, .int 0, .int 0]))] sz)) 0 0 (va_A [(a1, .inr (16, [.ref a2, .ref a3, .ref a4, .ref a5, .ref a6, .ref a7, .ref a8, .ref a9, .ref a10, .ref a11])), (a2, .inr (10, [.ref a12, .ref a13, .ref a14, .ref a15, .ref a16, .int 0, .int 0]))] sz) := by
  refine Met.ofW (cc := cX11_countsFit) (maxL := 1) (ret := (some .boolean)) (by decide +kernel) rfl ?_
  intro p e s m args below meth c s₁ B hml hv
  obtain ⟨rfl, hsz, hP, hK, hD0, hG⟩ := hv
  have hx := B.exec
  have hb := B.bytes
  have hr := B.returns
  have hts := atoms_spec (ws := wsX11_countsFit) B.pre
  have hown : s.vm.findClass RX11 = some m.cls := findClass_of_methodNamed B.named
  have hlocks := B.notSynchronized
  have hin_X11 : ∀ w ∈ wsX110, w ∈ wsX11_countsFit := by decide +kernel
  subst hsz
  have hD := hD0.self (sz := s.heap.size)
  generalize hAe : va_A [(a1, .inr (16, [.ref a2, .ref a3, .ref a4, .ref a5, .ref a6, .ref a7, .ref a8, .ref a9, .ref a10, .ref a11])), (a2, .inr (10, [.ref a12, .ref a13, .ref a14, .ref a15, .ref a16, .int 0, .int 0]))] s.heap.size = A at hD hG ⊢
  have hA : ∀ q : Nat, s.heap.size ≤ q → A q := fun q h => by rw [← hAe]; exact Or.inr h
  have hS : va_S A s.heap s.heap [] := va_S.rf
  have hl := lv_entry ([.ref a1]) (n := 1) (Nat.le_of_ble_eq_true rfl)
  rw [lg_entry_eq]
  generalize (lg_sl ([.ref a1]) ++ List.replicate (1 - (lg_sl ([.ref a1])).length) Slot.unset).toArray = ls at hl ⊢
  have hl : lv_has ls 1 [(0, .ref a1)] := hl
  refine lv_aload_n hx hb dX11_countsFit_0 rfl (lv_at hl 0 rfl) ?_
  refine va_get (D := (dC, dI)) (ci := 16) (v := .ref a2) (C := RX11) (T := TX11) (N := 10) hx hb hts hin_X11 hown hK hP 0 rfl rfl 0 (by decide) (hts (.fieldLink RX11 12 "Nearestward" "ground" "LNearestward$Ground;") (by decide +kernel)) (fun _ h9 => h9) rfl dX11_countsFit_1 ?_
  have hPc := hP.sub (ws' := [(a2, .inr (10, [.ref a12, .ref a13, .ref a14, .ref a15, .ref a16, .int 0, .int 0]))]) [1] rfl
  have hDc := hD.sub (ws' := [(a2, .inr (10, [.ref a12, .ref a13, .ref a14, .ref a15, .ref a16, .int 0, .int 0]))]) [1] (by decide) rfl
  have hFc := va_free (wc := [(a2, .inr (10, [.ref a12, .ref a13, .ref a14, .ref a15, .ref a16, .int 0, .int 0]))]) hD hS hA [1] rfl
  refine va_calli (va_runV (As := []) (rest := []) ⟨hx, hb, hml, hown, hts⟩ (xcX5_someTurn l hst dC dI T a2 a12 a13 a14 a15 a16 s.heap.size) (cwV 0 hts gX11_countsFit_X5_someTurn rfl rfl rfl (by decide +kernel) ⟨Nat.le_of_ble_eq_true rfl, Nat.le_of_ble_eq_true rfl⟩) ⟨xBlind, va_recv hK hPc (ci := 10) (q0 := 0) rfl rfl, xCall hK hG hS hPc hDc hFc⟩ rfl rfl hl.1 rfl (lv_room (Nat.le_of_ble_eq_true rfl)) dX11_countsFit_4 ⟨Nat.le_of_ble_eq_true rfl, Nat.le_of_ble_eq_true rfl⟩) hS (fun q _ h => hFc q h) hFc (fun r_9 u t H locs ht hvm hw hB hz1 hk1 hS => ?_)
  subst hw
  rcases hB with ⟨hr_9, hP1, hD1⟩
  rw [ht] at hP1
  subst hr_9
  obtain ⟨hP, hD⟩ := va_join (wr := [(a1, .inr (16, [.ref a2, .ref a3, .ref a4, .ref a5, .ref a6, .ref a7, .ref a8, .ref a9, .ref a10, .ref a11]))]) (w1 := [(a2, .inr (10, [.ref a12, .ref a13, .ref a14, .ref a15, .ref a16, .int 0, .int 0]))]) hP hD [1] [0] rfl rfl (by decide) (by decide) hk1 hFc hP1 hD1
  have hP : va_P (dC, dI) vwCl [(a1, .inr (16, [.ref a2, .ref a3, .ref a4, .ref a5, .ref a6, .ref a7, .ref a8, .ref a9, .ref a10, .ref a11])), (a2, .inr (10, [.ref a12, .ref a13, .ref a14, .ref a15, .ref a16, .int 0, .int 0]))] H := hP
  have hD : va_D A [(a1, .inr (16, [.ref a2, .ref a3, .ref a4, .ref a5, .ref a6, .ref a7, .ref a8, .ref a9, .ref a10, .ref a11])), (a2, .inr (10, [.ref a12, .ref a13, .ref a14, .ref a15, .ref a16, .int 0, .int 0]))] := hD
  clear hPc hDc hFc hP1 hD1 hk1 hz1 ht hvm
  refine lv_if_eq (tgt := 37) hx hb dX11_countsFit_7 (by decide) (fun c_2 => ?_) (fun c_2 => absurd (by decide) c_2)
  refine lv_iconst (v := 1) hx hb dX11_countsFit_37 (by decide) ?_
  refine lv_goto (tgt := 42) hx hb dX11_countsFit_38 (by decide) ?_
  have hP9 := hP.sub (ws' := [(a1, .inr (16, [.ref a2, .ref a3, .ref a4, .ref a5, .ref a6, .ref a7, .ref a8, .ref a9, .ref a10, .ref a11])), (a2, .inr (10, [.ref a12, .ref a13, .ref a14, .ref a15, .ref a16, .int 0, .int 0]))]) [0, 1] rfl
  have hD9 := hD.sub (ws' := [(a1, .inr (16, [.ref a2, .ref a3, .ref a4, .ref a5, .ref a6, .ref a7, .ref a8, .ref a9, .ref a10, .ref a11])), (a2, .inr (10, [.ref a12, .ref a13, .ref a14, .ref a15, .ref a16, .int 0, .int 0]))]) [0, 1] (by decide) rfl
  exact W.zret (v := 1) hx hb hr (by decide) (fun t ht hW => ⟨⟨_, _, rfl, rfl, ⟨rfl, by rw [ht]; exact hP9, hD9⟩⟩, hS.F ht⟩) hS.2.2 dX11_countsFit_42
set_option maxHeartbeats 4000000 in
set_option maxRecDepth 100000 in
theorem xcX11_treeIsOfNeighbours (l : Launch) (hst : l.stackTraces = false) (dC : Nat → ClassId) (dI : Nat → Nat → Nat) (T : Nat → ClassId) (a1 : Nat) (a2 : Nat) (a3 : Nat) (a4 : Nat) (a5 : Nat) (a6 : Nat) (a7 : Nat) (a8 : Nat) (a9 : Nat) (a10 : Nat) (a11 : Nat) (a12 : Nat) (a13 : Nat) (a14 : Nat) (a15 : Nat) (a16 : Nat) (sz : Nat) : Met l yX11_treeIsOfNeighbours wsX11_treeIsOfNeighbours ({ frames := 3, cells := 0, slots := 0, locals := 65 } : Room) (va_Pc [.ref a1] (fun U => xB dC dI T [(a1, .inr (16, [.ref a2, .ref a3, .ref a4, .ref a5, .ref a6, .ref a7, .ref a8, .ref a9, .ref a10, .ref a11])), (a2, .inr (10, [.ref a12, .ref a13, .ref a14, .ref a15, .ref a16, .int 0, .int 0]))] sz U)) (va_Qi (fun (r u : Int32) => r = u) (fun (u : Int32) (t : State) => 1 = u ∧ xE dC dI [(a1, .inr (16, [.ref a2, .ref a3, .ref a4, .ref a5, .ref a6, .ref a7, .ref a8, .ref a9, .ref a10, .ref a11])), (a2, .inr (10, [.ref a12, .ref a13, .ref a14, .ref a15, .ref a16, .int 0, .int 0]))] (va_A [(a1, .inr (16, [.ref a2, .ref a3, .ref a4, .ref a5, .ref a6, .ref a7, .ref a8, .ref a9, .ref a10, .ref a11])), (a2, .inr (10, [.ref a12, .ref a13, .ref a14, .ref a15, .ref a16, .int 0, .int 0]))] sz) t) (va_A [(a1, .inr (16, [.ref a2, .ref a3, .ref a4, .ref a5, .ref a6, .ref a7, .ref a8, .ref a9, .ref a10, .ref a11])), (a2, .inr (10, [.ref a12, .ref a13, .ref a14, .ref a15, .ref a16, .int 0, .int 0]))] sz)) 0 0 (va_A [(a1, .inr (16, [.ref a2, .ref a3, .ref a4, .ref a5, .ref a6, .ref a7, .ref a8, .ref a9, .ref a10, .ref a11])), (a2, .inr (10, [.ref a12, .ref a13, .ref a14, .ref a15, .ref a16, .int 0, .int 0]))] sz) := by
  refine Met.ofW (cc := cX11_treeIsOfNeighbours) (maxL := 2) (ret := (some .boolean)) (by decide +kernel) rfl ?_
  intro p e s m args below meth c s₁ B hml hv
  obtain ⟨rfl, hsz, hP, hK, hD0, hG⟩ := hv
  have hx := B.exec
  have hb := B.bytes
  have hr := B.returns
  have hts := atoms_spec (ws := wsX11_treeIsOfNeighbours) B.pre
  have hown : s.vm.findClass RX11 = some m.cls := findClass_of_methodNamed B.named
  have hlocks := B.notSynchronized
  have hin_X11 : ∀ w ∈ wsX110, w ∈ wsX11_treeIsOfNeighbours := by decide +kernel
  subst hsz
  have hD := hD0.self (sz := s.heap.size)
  generalize hAe : va_A [(a1, .inr (16, [.ref a2, .ref a3, .ref a4, .ref a5, .ref a6, .ref a7, .ref a8, .ref a9, .ref a10, .ref a11])), (a2, .inr (10, [.ref a12, .ref a13, .ref a14, .ref a15, .ref a16, .int 0, .int 0]))] s.heap.size = A at hD hG ⊢
  have hA : ∀ q : Nat, s.heap.size ≤ q → A q := fun q h => by rw [← hAe]; exact Or.inr h
  have hS : va_S A s.heap s.heap [] := va_S.rf
  have hl := lv_entry ([.ref a1]) (n := 2) (Nat.le_of_ble_eq_true rfl)
  rw [lg_entry_eq]
  generalize (lg_sl ([.ref a1]) ++ List.replicate (2 - (lg_sl ([.ref a1])).length) Slot.unset).toArray = ls at hl ⊢
  have hl : lv_has ls 2 [(0, .ref a1)] := hl
  refine lv_aload_n hx hb dX11_treeIsOfNeighbours_0 rfl (lv_at hl 0 rfl) ?_
  refine va_get (D := (dC, dI)) (ci := 16) (v := .ref a2) (C := RX11) (T := TX11) (N := 10) hx hb hts hin_X11 hown hK hP 0 rfl rfl 0 (by decide) (hts (.fieldLink RX11 12 "Nearestward" "ground" "LNearestward$Ground;") (by decide +kernel)) (fun _ h9 => h9) rfl dX11_treeIsOfNeighbours_1 ?_
  have hPc := hP.sub (ws' := [(a2, .inr (10, [.ref a12, .ref a13, .ref a14, .ref a15, .ref a16, .int 0, .int 0]))]) [1] rfl
  have hDc := hD.sub (ws' := [(a2, .inr (10, [.ref a12, .ref a13, .ref a14, .ref a15, .ref a16, .int 0, .int 0]))]) [1] (by decide) rfl
  have hFc := va_free (wc := [(a2, .inr (10, [.ref a12, .ref a13, .ref a14, .ref a15, .ref a16, .int 0, .int 0]))]) hD hS hA [1] rfl
  refine va_calli (va_runV (As := []) (rest := []) ⟨hx, hb, hml, hown, hts⟩ (xcX5_someTurn l hst dC dI T a2 a12 a13 a14 a15 a16 s.heap.size) (cwV 0 hts gX11_treeIsOfNeighbours_X5_someTurn rfl rfl rfl (by decide +kernel) ⟨Nat.le_of_ble_eq_true rfl, Nat.le_of_ble_eq_true rfl⟩) ⟨xBlind, va_recv hK hPc (ci := 10) (q0 := 0) rfl rfl, xCall hK hG hS hPc hDc hFc⟩ rfl rfl hl.1 rfl (lv_room (Nat.le_of_ble_eq_true rfl)) dX11_treeIsOfNeighbours_4 ⟨Nat.le_of_ble_eq_true rfl, Nat.le_of_ble_eq_true rfl⟩) hS (fun q _ h => hFc q h) hFc (fun r_9 u t H locs ht hvm hw hB hz1 hk1 hS => ?_)
  subst hw
  rcases hB with ⟨hr_9, hP1, hD1⟩
  rw [ht] at hP1
  subst hr_9
  obtain ⟨hP, hD⟩ := va_join (wr := [(a1, .inr (16, [.ref a2, .ref a3, .ref a4, .ref a5, .ref a6, .ref a7, .ref a8, .ref a9, .ref a10, .ref a11]))]) (w1 := [(a2, .inr (10, [.ref a12, .ref a13, .ref a14, .ref a15, .ref a16, .int 0, .int 0]))]) hP hD [1] [0] rfl rfl (by decide) (by decide) hk1 hFc hP1 hD1
  have hP : va_P (dC, dI) vwCl [(a1, .inr (16, [.ref a2, .ref a3, .ref a4, .ref a5, .ref a6, .ref a7, .ref a8, .ref a9, .ref a10, .ref a11])), (a2, .inr (10, [.ref a12, .ref a13, .ref a14, .ref a15, .ref a16, .int 0, .int 0]))] H := hP
  have hD : va_D A [(a1, .inr (16, [.ref a2, .ref a3, .ref a4, .ref a5, .ref a6, .ref a7, .ref a8, .ref a9, .ref a10, .ref a11])), (a2, .inr (10, [.ref a12, .ref a13, .ref a14, .ref a15, .ref a16, .int 0, .int 0]))] := hD
  clear hPc hDc hFc hP1 hD1 hk1 hz1 ht hvm
  refine lv_if_ne (tgt := 12) hx hb dX11_treeIsOfNeighbours_7 (by decide) (fun c_2 => absurd c_2 (by decide)) (fun c_2 => ?_)
  refine lv_iconst (v := 1) hx hb dX11_treeIsOfNeighbours_10 (by decide) ?_
  have hP9 := hP.sub (ws' := [(a1, .inr (16, [.ref a2, .ref a3, .ref a4, .ref a5, .ref a6, .ref a7, .ref a8, .ref a9, .ref a10, .ref a11])), (a2, .inr (10, [.ref a12, .ref a13, .ref a14, .ref a15, .ref a16, .int 0, .int 0]))]) [0, 1] rfl
  have hD9 := hD.sub (ws' := [(a1, .inr (16, [.ref a2, .ref a3, .ref a4, .ref a5, .ref a6, .ref a7, .ref a8, .ref a9, .ref a10, .ref a11])), (a2, .inr (10, [.ref a12, .ref a13, .ref a14, .ref a15, .ref a16, .int 0, .int 0]))]) [0, 1] (by decide) rfl
  exact W.zret (v := 1) hx hb hr (by decide) (fun t ht hW => ⟨⟨_, _, rfl, rfl, ⟨rfl, by rw [ht]; exact hP9, hD9⟩⟩, hS.F ht⟩) hS.2.2 dX11_treeIsOfNeighbours_11
set_option maxHeartbeats 4000000 in
set_option maxRecDepth 100000 in
theorem xcX11_graphsAreNested (l : Launch) (hst : l.stackTraces = false) (dC : Nat → ClassId) (dI : Nat → Nat → Nat) (T : Nat → ClassId) (a1 : Nat) (a2 : Nat) (a3 : Nat) (a4 : Nat) (a5 : Nat) (a6 : Nat) (a7 : Nat) (a8 : Nat) (a9 : Nat) (a10 : Nat) (a11 : Nat) (a12 : Nat) (a13 : Nat) (a14 : Nat) (a15 : Nat) (a16 : Nat) (sz : Nat) : Met l yX11_graphsAreNested wsX11_graphsAreNested ({ frames := 2, cells := 0, slots := 0, locals := 42 } : Room) (va_Pc [.ref a1] (fun U => xB dC dI T [(a1, .inr (16, [.ref a2, .ref a3, .ref a4, .ref a5, .ref a6, .ref a7, .ref a8, .ref a9, .ref a10, .ref a11])), (a2, .inr (10, [.ref a12, .ref a13, .ref a14, .ref a15, .ref a16, .int 0, .int 0]))] sz U)) (va_Qi (fun (r u : Int32) => r = u) (fun (u : Int32) (t : State) => 1 = u ∧ xE dC dI [(a1, .inr (16, [.ref a2, .ref a3, .ref a4, .ref a5, .ref a6, .ref a7, .ref a8, .ref a9, .ref a10, .ref a11])), (a2, .inr (10, [.ref a12, .ref a13, .ref a14, .ref a15, .ref a16, .int 0, .int 0]))] (va_A [(a1, .inr (16, [.ref a2, .ref a3, .ref a4, .ref a5, .ref a6, .ref a7, .ref a8, .ref a9, .ref a10, .ref a11])), (a2, .inr (10, [.ref a12, .ref a13, .ref a14, .ref a15, .ref a16, .int 0, .int 0]))] sz) t) (va_A [(a1, .inr (16, [.ref a2, .ref a3, .ref a4, .ref a5, .ref a6, .ref a7, .ref a8, .ref a9, .ref a10, .ref a11])), (a2, .inr (10, [.ref a12, .ref a13, .ref a14, .ref a15, .ref a16, .int 0, .int 0]))] sz)) 0 0 (va_A [(a1, .inr (16, [.ref a2, .ref a3, .ref a4, .ref a5, .ref a6, .ref a7, .ref a8, .ref a9, .ref a10, .ref a11])), (a2, .inr (10, [.ref a12, .ref a13, .ref a14, .ref a15, .ref a16, .int 0, .int 0]))] sz) := by
  refine Met.ofW (cc := cX11_graphsAreNested) (maxL := 3) (ret := (some .boolean)) (by decide +kernel) rfl ?_
  intro p e s m args below meth c s₁ B hml hv
  obtain ⟨rfl, hsz, hP, hK, hD0, hG⟩ := hv
  have hx := B.exec
  have hb := B.bytes
  have hr := B.returns
  have hts := atoms_spec (ws := wsX11_graphsAreNested) B.pre
  have hown : s.vm.findClass RX11 = some m.cls := findClass_of_methodNamed B.named
  have hlocks := B.notSynchronized
  have hin_X11 : ∀ w ∈ wsX110, w ∈ wsX11_graphsAreNested := by decide +kernel
  subst hsz
  have hD := hD0.self (sz := s.heap.size)
  generalize hAe : va_A [(a1, .inr (16, [.ref a2, .ref a3, .ref a4, .ref a5, .ref a6, .ref a7, .ref a8, .ref a9, .ref a10, .ref a11])), (a2, .inr (10, [.ref a12, .ref a13, .ref a14, .ref a15, .ref a16, .int 0, .int 0]))] s.heap.size = A at hD hG ⊢
  have hA : ∀ q : Nat, s.heap.size ≤ q → A q := fun q h => by rw [← hAe]; exact Or.inr h
  have hS : va_S A s.heap s.heap [] := va_S.rf
  have hl := lv_entry ([.ref a1]) (n := 3) (Nat.le_of_ble_eq_true rfl)
  rw [lg_entry_eq]
  generalize (lg_sl ([.ref a1]) ++ List.replicate (3 - (lg_sl ([.ref a1])).length) Slot.unset).toArray = ls at hl ⊢
  have hl : lv_has ls 3 [(0, .ref a1)] := hl
  refine lv_iconst (v := 0) hx hb dX11_graphsAreNested_0 (by decide) ?_
  refine lv_istore_n (lv' := [(1, .int 0), (0, .ref a1)]) hx hb dX11_graphsAreNested_1 rfl hl (by decide) rfl (fun ls hl => ?_)
  refine xLoop (P := fun i_k_1 H locs ls => va_P (dC, dI) vwCl [(a1, .inr (16, [.ref a2, .ref a3, .ref a4, .ref a5, .ref a6, .ref a7, .ref a8, .ref a9, .ref a10, .ref a11])), (a2, .inr (10, [.ref a12, .ref a13, .ref a14, .ref a15, .ref a16, .int 0, .int 0]))] H ∧ va_D A [(a1, .inr (16, [.ref a2, .ref a3, .ref a4, .ref a5, .ref a6, .ref a7, .ref a8, .ref a9, .ref a10, .ref a11])), (a2, .inr (10, [.ref a12, .ref a13, .ref a14, .ref a15, .ref a16, .int 0, .int 0]))] ∧ va_S A s.heap H locs ∧ lv_has ls 3 [(1, .int (nI i_k_1)), (0, .ref a1)]) (N := 12) (fun i_k_1 H locs ls hi_k_1 hI ih_k_1 => ?_) (0) _ _ _ (by omega) ⟨hP, hD, hS, lv_sub hl [0, 1] rfl⟩
  obtain ⟨hP, hD, hS, hl⟩ := hI
  refine lv_iload_n hx hb dX11_graphsAreNested_2 rfl (lv_at hl 0 rfl) ?_
  refine lv_bipush (v := 12) hx hb dX11_graphsAreNested_3 (by decide) ?_
  have hz_3 : (nI i_k_1).toInt = ((i_k_1 : Nat) : Int) := nI_toInt (by omega)
  refine lv_icmp_ge (tgt := 63) hx hb dX11_graphsAreNested_5 (by decide) (fun c_2 => ?_) (fun c_2 => ?_)
  · have nc_2 : 12 ≤ (nI i_k_1).toInt := (xi_le (by decide +kernel) rfl).mp c_2
    refine lv_iconst (v := 1) hx hb dX11_graphsAreNested_63 (by decide) ?_
    have hP9 := hP.sub (ws' := [(a1, .inr (16, [.ref a2, .ref a3, .ref a4, .ref a5, .ref a6, .ref a7, .ref a8, .ref a9, .ref a10, .ref a11])), (a2, .inr (10, [.ref a12, .ref a13, .ref a14, .ref a15, .ref a16, .int 0, .int 0]))]) [0, 1] rfl
    have hD9 := hD.sub (ws' := [(a1, .inr (16, [.ref a2, .ref a3, .ref a4, .ref a5, .ref a6, .ref a7, .ref a8, .ref a9, .ref a10, .ref a11])), (a2, .inr (10, [.ref a12, .ref a13, .ref a14, .ref a15, .ref a16, .int 0, .int 0]))]) [0, 1] (by decide) rfl
    exact W.zret (v := 1) hx hb hr (by decide) (fun t ht hW => ⟨⟨_, _, rfl, rfl, ⟨rfl, by rw [ht]; exact hP9, hD9⟩⟩, hS.F ht⟩) hS.2.2 dX11_graphsAreNested_64
  · have nc_2 : ¬ (12 ≤ (nI i_k_1).toInt) := mt (xi_le (by decide +kernel) rfl).mpr c_2
    refine lv_iload_n hx hb dX11_graphsAreNested_8 rfl (lv_at hl 0 rfl) ?_
    refine lv_iconst (v := 1) hx hb dX11_graphsAreNested_9 (by decide) ?_
    refine lv_iadd hx hb dX11_graphsAreNested_10 ?_
    refine lv_topi (fun f_4 ef_4 => ?_)
    obtain rfl : f_4 = (nI (i_k_1 + 1)) := ef_4.trans (nI_add _ _)
    refine lv_istore_n (lv' := [(2, .int (nI (i_k_1 + 1))), (1, .int (nI i_k_1)), (0, .ref a1)]) hx hb dX11_graphsAreNested_11 rfl hl (by decide) rfl (fun ls hl => ?_)
    refine xLoop (P := fun i_k_5 H locs ls => va_P (dC, dI) vwCl [(a1, .inr (16, [.ref a2, .ref a3, .ref a4, .ref a5, .ref a6, .ref a7, .ref a8, .ref a9, .ref a10, .ref a11])), (a2, .inr (10, [.ref a12, .ref a13, .ref a14, .ref a15, .ref a16, .int 0, .int 0]))] H ∧ va_D A [(a1, .inr (16, [.ref a2, .ref a3, .ref a4, .ref a5, .ref a6, .ref a7, .ref a8, .ref a9, .ref a10, .ref a11])), (a2, .inr (10, [.ref a12, .ref a13, .ref a14, .ref a15, .ref a16, .int 0, .int 0]))] ∧ va_S A s.heap H locs ∧ lv_has ls 3 [(2, .int (nI i_k_5)), (1, .int (nI i_k_1)), (0, .ref a1)]) (N := 12) (fun i_k_5 H locs ls hi_k_5 hI ih_k_5 => ?_) (i_k_1 + 1) _ _ _ (by omega) ⟨hP, hD, hS, lv_sub hl [0, 1, 2] rfl⟩
    obtain ⟨hP, hD, hS, hl⟩ := hI
    refine lv_iload_n hx hb dX11_graphsAreNested_12 rfl (lv_at hl 0 rfl) ?_
    refine lv_bipush (v := 12) hx hb dX11_graphsAreNested_13 (by decide) ?_
    have hz_7 : (nI i_k_5).toInt = ((i_k_5 : Nat) : Int) := nI_toInt (by omega)
    refine lv_icmp_ge (tgt := 57) hx hb dX11_graphsAreNested_15 (by decide) (fun c_6 => ?_) (fun c_6 => ?_)
    · have nc_6 : 12 ≤ (nI i_k_5).toInt := (xi_le (by decide +kernel) rfl).mp c_6
      refine lv_iinc (v := (nI (i_k_1 + 1))) (lv' := [(1, .int (nI (i_k_1 + 1))), (2, .int (nI i_k_5)), (0, .ref a1)]) hx hb dX11_graphsAreNested_57 hl (k := 1) rfl (nI_1 _) (by decide) rfl (fun ls hl => ?_)
      refine lv_goto (tgt := 2) hx hb dX11_graphsAreNested_60 (by decide) ?_
      exact ih_k_1 _ _ _ (by omega) ⟨hP, hD, hS, lv_sub hl [0, 2] rfl⟩
    · have nc_6 : ¬ (12 ≤ (nI i_k_5).toInt) := mt (xi_le (by decide +kernel) rfl).mpr c_6
      refine lv_aload_n hx hb dX11_graphsAreNested_18 rfl (lv_at hl 2 rfl) ?_
      refine va_get (D := (dC, dI)) (ci := 16) (v := .ref a2) (C := RX11) (T := TX11) (N := 10) hx hb hts hin_X11 hown hK hP 0 rfl rfl 0 (by decide) (hts (.fieldLink RX11 12 "Nearestward" "ground" "LNearestward$Ground;") (by decide +kernel)) (fun _ h9 => h9) rfl dX11_graphsAreNested_19 ?_
      refine lv_iload_n hx hb dX11_graphsAreNested_22 rfl (lv_at hl 1 rfl) ?_
      have hPc := hP.sub (ws' := [(a2, .inr (10, [.ref a12, .ref a13, .ref a14, .ref a15, .ref a16, .int 0, .int 0]))]) [1] rfl
      have hDc := hD.sub (ws' := [(a2, .inr (10, [.ref a12, .ref a13, .ref a14, .ref a15, .ref a16, .int 0, .int 0]))]) [1] (by decide) rfl
      have hFc := va_free (wc := [(a2, .inr (10, [.ref a12, .ref a13, .ref a14, .ref a15, .ref a16, .int 0, .int 0]))]) hD hS hA [1] rfl
      refine va_calli (va_runV (As := [.int (nI i_k_1)]) (rest := []) ⟨hx, hb, hml, hown, hts⟩ (xcX5_has l hst dC dI T a2 a12 a13 a14 a15 a16 H.size (nI i_k_1)) (cwV 1 hts gX11_graphsAreNested_X5_has rfl rfl rfl (by decide +kernel) ⟨Nat.le_of_ble_eq_true rfl, Nat.le_of_ble_eq_true rfl⟩) ⟨xBlind, va_recv hK hPc (ci := 10) (q0 := 0) rfl rfl, xCall hK hG hS hPc hDc hFc⟩ rfl rfl hl.1 rfl (lv_room (Nat.le_of_ble_eq_true rfl)) dX11_graphsAreNested_23 ⟨Nat.le_of_ble_eq_true rfl, Nat.le_of_ble_eq_true rfl⟩) hS (fun q _ h => hFc q h) hFc (fun r_9 u t H locs ht hvm hw hB hz1 hk1 hS => ?_)
      subst hw
      rcases hB with ⟨hr_9, hP1, hD1⟩
      rw [ht] at hP1
      subst hr_9
      obtain ⟨hP, hD⟩ := va_join (wr := [(a1, .inr (16, [.ref a2, .ref a3, .ref a4, .ref a5, .ref a6, .ref a7, .ref a8, .ref a9, .ref a10, .ref a11]))]) (w1 := [(a2, .inr (10, [.ref a12, .ref a13, .ref a14, .ref a15, .ref a16, .int 0, .int 0]))]) hP hD [1] [0] rfl rfl (by decide) (by decide) hk1 hFc hP1 hD1
      have hP : va_P (dC, dI) vwCl [(a1, .inr (16, [.ref a2, .ref a3, .ref a4, .ref a5, .ref a6, .ref a7, .ref a8, .ref a9, .ref a10, .ref a11])), (a2, .inr (10, [.ref a12, .ref a13, .ref a14, .ref a15, .ref a16, .int 0, .int 0]))] H := hP
      have hD : va_D A [(a1, .inr (16, [.ref a2, .ref a3, .ref a4, .ref a5, .ref a6, .ref a7, .ref a8, .ref a9, .ref a10, .ref a11])), (a2, .inr (10, [.ref a12, .ref a13, .ref a14, .ref a15, .ref a16, .int 0, .int 0]))] := hD
      clear hPc hDc hFc hP1 hD1 hk1 hz1 ht hvm
      refine lv_if_eq (tgt := 51) hx hb dX11_graphsAreNested_26 (by decide) (fun c_9 => ?_) (fun c_9 => absurd (by decide) c_9)
      refine lv_iinc (v := (nI (i_k_5 + 1))) (lv' := [(2, .int (nI (i_k_5 + 1))), (1, .int (nI i_k_1)), (0, .ref a1)]) hx hb dX11_graphsAreNested_51 hl (k := 0) rfl (nI_1 _) (by decide) rfl (fun ls hl => ?_)
      refine lv_goto (tgt := 12) hx hb dX11_graphsAreNested_54 (by decide) ?_
      exact ih_k_5 _ _ _ (by omega) ⟨hP, hD, hS, lv_sub hl [0, 1, 2] rfl⟩
set_option maxHeartbeats 4000000 in
set_option maxRecDepth 100000 in
theorem xcX11_isSound (l : Launch) (hst : l.stackTraces = false) (dC : Nat → ClassId) (dI : Nat → Nat → Nat) (T : Nat → ClassId) (a1 : Nat) (a2 : Nat) (a3 : Nat) (a4 : Nat) (a5 : Nat) (a6 : Nat) (a7 : Nat) (a8 : Nat) (a9 : Nat) (a10 : Nat) (a11 : Nat) (a12 : Nat) (a13 : Nat) (a14 : Nat) (a15 : Nat) (a16 : Nat) (a18 : Nat) (a19 : Nat) (a20 : Nat) (a21 : Nat) (a22 : Nat) (sz : Nat) : Met l yX11_isSound wsX11_isSound ({ frames := 4, cells := 0, slots := 0, locals := 86 } : Room) (va_Pc [.ref a1] (fun U => xB dC dI T [(a1, .inr (16, [.ref a2, .ref a3, .ref a4, .ref a5, .ref a6, .ref a7, .ref a8, .ref a9, .ref a10, .ref a11])), (a2, .inr (10, [.ref a12, .ref a13, .ref a14, .ref a15, .ref a16, .int 0, .int 0])), (a4, .inr (8, [.ref a18, .ref a19, .int 0, .int (-1)])), (a19, .inl (T 0, 12, .inl (fun _ => 0))), (a5, .inr (9, [.ref a20, .ref a21, .int 0, .int (-1)])), (a20, .inr (13, [.ref a22, .int 0])), (a22, .inl (T 0, 12, .inl (fun _ => 0))), (a21, .inl (T 0, 12, .inl (fun _ => 0)))] sz U)) (va_Qi (fun (r u : Int32) => r = u) (fun (u : Int32) (t : State) => 1 = u ∧ xE dC dI [] (va_A [(a1, .inr (16, [.ref a2, .ref a3, .ref a4, .ref a5, .ref a6, .ref a7, .ref a8, .ref a9, .ref a10, .ref a11])), (a2, .inr (10, [.ref a12, .ref a13, .ref a14, .ref a15, .ref a16, .int 0, .int 0])), (a4, .inr (8, [.ref a18, .ref a19, .int 0, .int (-1)])), (a19, .inl (T 0, 12, .inl (fun _ => 0))), (a5, .inr (9, [.ref a20, .ref a21, .int 0, .int (-1)])), (a20, .inr (13, [.ref a22, .int 0])), (a22, .inl (T 0, 12, .inl (fun _ => 0))), (a21, .inl (T 0, 12, .inl (fun _ => 0)))] sz) t) (va_A [(a1, .inr (16, [.ref a2, .ref a3, .ref a4, .ref a5, .ref a6, .ref a7, .ref a8, .ref a9, .ref a10, .ref a11])), (a2, .inr (10, [.ref a12, .ref a13, .ref a14, .ref a15, .ref a16, .int 0, .int 0])), (a4, .inr (8, [.ref a18, .ref a19, .int 0, .int (-1)])), (a19, .inl (T 0, 12, .inl (fun _ => 0))), (a5, .inr (9, [.ref a20, .ref a21, .int 0, .int (-1)])), (a20, .inr (13, [.ref a22, .int 0])), (a22, .inl (T 0, 12, .inl (fun _ => 0))), (a21, .inl (T 0, 12, .inl (fun _ => 0)))] sz)) 0 0 (va_A [(a1, .inr (16, [.ref a2, .ref a3, .ref a4, .ref a5, .ref a6, .ref a7, .ref a8, .ref a9, .ref a10, .ref a11])), (a2, .inr (10, [.ref a12, .ref a13, .ref a14, .ref a15, .ref a16, .int 0, .int 0])), (a4, .inr (8, [.ref a18, .ref a19, .int 0, .int (-1)])), (a19, .inl (T 0, 12, .inl (fun _ => 0))), (a5, .inr (9, [.ref a20, .ref a21, .int 0, .int (-1)])), (a20, .inr (13, [.ref a22, .int 0])), (a22, .inl (T 0, 12, .inl (fun _ => 0))), (a21, .inl (T 0, 12, .inl (fun _ => 0)))] sz) := by
  refine Met.ofW (cc := cX11_isSound) (maxL := 1) (ret := (some .boolean)) (by decide +kernel) rfl ?_
  intro p e s m args below meth c s₁ B hml hv
  obtain ⟨rfl, hsz, hP, hK, hD0, hG⟩ := hv
  have hx := B.exec
  have hb := B.bytes
  have hr := B.returns
  have hts := atoms_spec (ws := wsX11_isSound) B.pre
  have hown : s.vm.findClass RX11 = some m.cls := findClass_of_methodNamed B.named
  have hlocks := B.notSynchronized
  have hin_X11 : ∀ w ∈ wsX110, w ∈ wsX11_isSound := by decide +kernel
  subst hsz
  have hD := hD0.self (sz := s.heap.size)
  generalize hAe : va_A [(a1, .inr (16, [.ref a2, .ref a3, .ref a4, .ref a5, .ref a6, .ref a7, .ref a8, .ref a9, .ref a10, .ref a11])), (a2, .inr (10, [.ref a12, .ref a13, .ref a14, .ref a15, .ref a16, .int 0, .int 0])), (a4, .inr (8, [.ref a18, .ref a19, .int 0, .int (-1)])), (a19, .inl (T 0, 12, .inl (fun _ => 0))), (a5, .inr (9, [.ref a20, .ref a21, .int 0, .int (-1)])), (a20, .inr (13, [.ref a22, .int 0])), (a22, .inl (T 0, 12, .inl (fun _ => 0))), (a21, .inl (T 0, 12, .inl (fun _ => 0)))] s.heap.size = A at hD hG ⊢
  have hA : ∀ q : Nat, s.heap.size ≤ q → A q := fun q h => by rw [← hAe]; exact Or.inr h
  have hS : va_S A s.heap s.heap [] := va_S.rf
  have hl := lv_entry ([.ref a1]) (n := 1) (Nat.le_of_ble_eq_true rfl)
  rw [lg_entry_eq]
  generalize (lg_sl ([.ref a1]) ++ List.replicate (1 - (lg_sl ([.ref a1])).length) Slot.unset).toArray = ls at hl ⊢
  have hl : lv_has ls 1 [(0, .ref a1)] := hl
  refine lv_aload_n hx hb dX11_isSound_0 rfl (lv_at hl 0 rfl) ?_
  refine va_get (D := (dC, dI)) (ci := 16) (v := .ref a4) (C := RX11) (T := TX11) (N := 10) hx hb hts hin_X11 hown hK hP 0 rfl rfl 2 (by decide) (hts (.fieldLink RX11 26 "Nearestward" "triangles" "LNearestward$FatTriangles;") (by decide +kernel)) (fun _ h9 => h9) rfl dX11_isSound_1 ?_
  refine lv_aload_n hx hb dX11_isSound_4 rfl (lv_at hl 0 rfl) ?_
  refine va_get (D := (dC, dI)) (ci := 16) (v := .ref a2) (C := RX11) (T := TX11) (N := 10) hx hb hts hin_X11 hown hK hP 0 rfl rfl 0 (by decide) (hts (.fieldLink RX11 12 "Nearestward" "ground" "LNearestward$Ground;") (by decide +kernel)) (fun _ h9 => h9) rfl dX11_isSound_5 ?_
  have hPc := hP.sub (ws' := [(a2, .inr (10, [.ref a12, .ref a13, .ref a14, .ref a15, .ref a16, .int 0, .int 0])), (a4, .inr (8, [.ref a18, .ref a19, .int 0, .int (-1)])), (a19, .inl (T 0, 12, .inl (fun _ => 0)))]) [1, 2, 3] rfl
  have hDc := hD.sub (ws' := [(a2, .inr (10, [.ref a12, .ref a13, .ref a14, .ref a15, .ref a16, .int 0, .int 0])), (a4, .inr (8, [.ref a18, .ref a19, .int 0, .int (-1)])), (a19, .inl (T 0, 12, .inl (fun _ => 0)))]) [1, 2, 3] (by decide) rfl
  have hFc := va_free (wc := [(a2, .inr (10, [.ref a12, .ref a13, .ref a14, .ref a15, .ref a16, .int 0, .int 0])), (a4, .inr (8, [.ref a18, .ref a19, .int 0, .int (-1)])), (a19, .inl (T 0, 12, .inl (fun _ => 0)))]) hD hS hA [1, 2, 3] rfl
  refine va_callv (va_runV (As := [.ref a2]) (rest := []) ⟨hx, hb, hml, hown, hts⟩ (xcX3_findIn l hst dC dI T a4 a2 a12 a13 a14 a15 a16 a18 a19 s.heap.size) (cwV 1 hts gX11_isSound_X3_findIn rfl rfl rfl (by decide +kernel) ⟨Nat.le_of_ble_eq_true rfl, Nat.le_of_ble_eq_true rfl⟩) ⟨xBlind, va_recv hK hPc (ci := 8) (q0 := 1) rfl rfl, xCall hK hG hS hPc hDc hFc⟩ rfl rfl hl.1 rfl (lv_room (Nat.le_of_ble_eq_true rfl)) dX11_isSound_8 ⟨Nat.le_of_ble_eq_true rfl, Nat.le_of_ble_eq_true rfl⟩) hS (fun q _ h => hFc q h) hFc (fun u t H locs ht hvm hw hB hz1 hk1 hS => ?_)
  rcases hB with ⟨hP1, hD1⟩
  rw [ht] at hP1
  obtain ⟨hP, hD⟩ := va_join (wr := [(a1, .inr (16, [.ref a2, .ref a3, .ref a4, .ref a5, .ref a6, .ref a7, .ref a8, .ref a9, .ref a10, .ref a11])), (a5, .inr (9, [.ref a20, .ref a21, .int 0, .int (-1)])), (a20, .inr (13, [.ref a22, .int 0])), (a22, .inl (T 0, 12, .inl (fun _ => 0))), (a21, .inl (T 0, 12, .inl (fun _ => 0)))]) (w1 := [(a2, .inr (10, [.ref a12, .ref a13, .ref a14, .ref a15, .ref a16, .int 0, .int 0])), (a4, .inr (8, [.ref a18, .ref a19, .int 0, .int 0])), (a19, .inl (T 0, 12, .inl (fun _ => 0)))]) hP hD [1, 2, 3] [0, 4, 5, 6, 7] rfl rfl (by decide) (by decide) hk1 hFc hP1 hD1
  have hP := hP.sub (ws' := [(a1, .inr (16, [.ref a2, .ref a3, .ref a4, .ref a5, .ref a6, .ref a7, .ref a8, .ref a9, .ref a10, .ref a11])), (a2, .inr (10, [.ref a12, .ref a13, .ref a14, .ref a15, .ref a16, .int 0, .int 0])), (a4, .inr (8, [.ref a18, .ref a19, .int 0, .int 0])), (a19, .inl (T 0, 12, .inl (fun _ => 0))), (a5, .inr (9, [.ref a20, .ref a21, .int 0, .int (-1)])), (a20, .inr (13, [.ref a22, .int 0])), (a22, .inl (T 0, 12, .inl (fun _ => 0))), (a21, .inl (T 0, 12, .inl (fun _ => 0)))]) [0, 5, 6, 7, 1, 2, 3, 4] rfl
  have hD := hD.sub (ws' := [(a1, .inr (16, [.ref a2, .ref a3, .ref a4, .ref a5, .ref a6, .ref a7, .ref a8, .ref a9, .ref a10, .ref a11])), (a2, .inr (10, [.ref a12, .ref a13, .ref a14, .ref a15, .ref a16, .int 0, .int 0])), (a4, .inr (8, [.ref a18, .ref a19, .int 0, .int 0])), (a19, .inl (T 0, 12, .inl (fun _ => 0))), (a5, .inr (9, [.ref a20, .ref a21, .int 0, .int (-1)])), (a20, .inr (13, [.ref a22, .int 0])), (a22, .inl (T 0, 12, .inl (fun _ => 0))), (a21, .inl (T 0, 12, .inl (fun _ => 0)))]) [0, 5, 6, 7, 1, 2, 3, 4] (by decide) rfl
  clear hPc hDc hFc hP1 hD1 hk1 hz1 ht hvm
  refine lv_aload_n hx hb dX11_isSound_11 rfl (lv_at hl 0 rfl) ?_
  refine va_get (D := (dC, dI)) (ci := 16) (v := .ref a5) (C := RX11) (T := TX11) (N := 10) hx hb hts hin_X11 hown hK hP 0 rfl rfl 3 (by decide) (hts (.fieldLink RX11 33 "Nearestward" "graphs" "LNearestward$Graphs;") (by decide +kernel)) (fun _ h9 => h9) rfl dX11_isSound_12 ?_
  refine lv_aload_n hx hb dX11_isSound_15 rfl (lv_at hl 0 rfl) ?_
  refine va_get (D := (dC, dI)) (ci := 16) (v := .ref a2) (C := RX11) (T := TX11) (N := 10) hx hb hts hin_X11 hown hK hP 0 rfl rfl 0 (by decide) (hts (.fieldLink RX11 12 "Nearestward" "ground" "LNearestward$Ground;") (by decide +kernel)) (fun _ h9 => h9) rfl dX11_isSound_16 ?_
  have hPc := hP.sub (ws' := [(a2, .inr (10, [.ref a12, .ref a13, .ref a14, .ref a15, .ref a16, .int 0, .int 0])), (a5, .inr (9, [.ref a20, .ref a21, .int 0, .int (-1)])), (a20, .inr (13, [.ref a22, .int 0])), (a22, .inl (T 0, 12, .inl (fun _ => 0))), (a21, .inl (T 0, 12, .inl (fun _ => 0)))]) [1, 4, 5, 6, 7] rfl
  have hDc := hD.sub (ws' := [(a2, .inr (10, [.ref a12, .ref a13, .ref a14, .ref a15, .ref a16, .int 0, .int 0])), (a5, .inr (9, [.ref a20, .ref a21, .int 0, .int (-1)])), (a20, .inr (13, [.ref a22, .int 0])), (a22, .inl (T 0, 12, .inl (fun _ => 0))), (a21, .inl (T 0, 12, .inl (fun _ => 0)))]) [1, 4, 5, 6, 7] (by decide) rfl
  have hFc := va_free (wc := [(a2, .inr (10, [.ref a12, .ref a13, .ref a14, .ref a15, .ref a16, .int 0, .int 0])), (a5, .inr (9, [.ref a20, .ref a21, .int 0, .int (-1)])), (a20, .inr (13, [.ref a22, .int 0])), (a22, .inl (T 0, 12, .inl (fun _ => 0))), (a21, .inl (T 0, 12, .inl (fun _ => 0)))]) hD hS hA [1, 4, 5, 6, 7] rfl
  refine va_callv (va_runV (As := [.ref a2]) (rest := []) ⟨hx, hb, hml, hown, hts⟩ (xcX4_growTree l hst dC dI T a5 a2 a12 a13 a14 a15 a16 a20 a21 a22 H.size) (cwV 1 hts gX11_isSound_X4_growTree rfl rfl rfl (by decide +kernel) ⟨Nat.le_of_ble_eq_true rfl, Nat.le_of_ble_eq_true rfl⟩) ⟨xBlind, va_recv hK hPc (ci := 9) (q0 := 1) rfl rfl, xCall hK hG hS hPc hDc hFc⟩ rfl rfl hl.1 rfl (lv_room (Nat.le_of_ble_eq_true rfl)) dX11_isSound_19 ⟨Nat.le_of_ble_eq_true rfl, Nat.le_of_ble_eq_true rfl⟩) hS (fun q _ h => hFc q h) hFc (fun u t H locs ht hvm hw hB hz1 hk1 hS => ?_)
  rcases hB with ⟨g_2, hP1, hD1⟩
  rw [ht] at hP1
  obtain ⟨hP, hD⟩ := va_join (wr := [(a1, .inr (16, [.ref a2, .ref a3, .ref a4, .ref a5, .ref a6, .ref a7, .ref a8, .ref a9, .ref a10, .ref a11])), (a4, .inr (8, [.ref a18, .ref a19, .int 0, .int 0])), (a19, .inl (T 0, 12, .inl (fun _ => 0)))]) (w1 := [(a2, .inr (10, [.ref a12, .ref a13, .ref a14, .ref a15, .ref a16, .int 0, .int 0])), (a5, .inr (9, [.ref a20, .ref a21, .int 0, .int 0])), (a20, .inr (13, [.ref a22, .int 0])), (a22, .inl (T 0, 12, .inl g_2)), (a21, .inl (T 0, 12, .inl (fun _ => 0)))]) hP hD [1, 4, 5, 6, 7] [0, 2, 3] rfl rfl (by decide) (by decide) hk1 hFc hP1 hD1
  have hP := hP.sub (ws' := [(a1, .inr (16, [.ref a2, .ref a3, .ref a4, .ref a5, .ref a6, .ref a7, .ref a8, .ref a9, .ref a10, .ref a11])), (a2, .inr (10, [.ref a12, .ref a13, .ref a14, .ref a15, .ref a16, .int 0, .int 0])), (a4, .inr (8, [.ref a18, .ref a19, .int 0, .int 0])), (a19, .inl (T 0, 12, .inl (fun _ => 0))), (a5, .inr (9, [.ref a20, .ref a21, .int 0, .int 0])), (a20, .inr (13, [.ref a22, .int 0])), (a22, .inl (T 0, 12, .inl g_2)), (a21, .inl (T 0, 12, .inl (fun _ => 0)))]) [0, 3, 1, 2, 4, 5, 6, 7] rfl
  have hD := hD.sub (ws' := [(a1, .inr (16, [.ref a2, .ref a3, .ref a4, .ref a5, .ref a6, .ref a7, .ref a8, .ref a9, .ref a10, .ref a11])), (a2, .inr (10, [.ref a12, .ref a13, .ref a14, .ref a15, .ref a16, .int 0, .int 0])), (a4, .inr (8, [.ref a18, .ref a19, .int 0, .int 0])), (a19, .inl (T 0, 12, .inl (fun _ => 0))), (a5, .inr (9, [.ref a20, .ref a21, .int 0, .int 0])), (a20, .inr (13, [.ref a22, .int 0])), (a22, .inl (T 0, 12, .inl g_2)), (a21, .inl (T 0, 12, .inl (fun _ => 0)))]) [0, 3, 1, 2, 4, 5, 6, 7] (by decide) rfl
  clear hPc hDc hFc hP1 hD1 hk1 hz1 ht hvm
  refine lv_aload_n hx hb dX11_isSound_22 rfl (lv_at hl 0 rfl) ?_
  have hPc := hP.sub (ws' := [(a1, .inr (16, [.ref a2, .ref a3, .ref a4, .ref a5, .ref a6, .ref a7, .ref a8, .ref a9, .ref a10, .ref a11])), (a4, .inr (8, [.ref a18, .ref a19, .int 0, .int 0]))]) [0, 2] rfl
  have hDc := hD.sub (ws' := [(a1, .inr (16, [.ref a2, .ref a3, .ref a4, .ref a5, .ref a6, .ref a7, .ref a8, .ref a9, .ref a10, .ref a11])), (a4, .inr (8, [.ref a18, .ref a19, .int 0, .int 0]))]) [0, 2] (by decide) rfl
  have hFc := va_free (wc := [(a1, .inr (16, [.ref a2, .ref a3, .ref a4, .ref a5, .ref a6, .ref a7, .ref a8, .ref a9, .ref a10, .ref a11])), (a4, .inr (8, [.ref a18, .ref a19, .int 0, .int 0]))]) hD hS hA [0, 2] rfl
  refine va_calli (va_runV (As := []) (rest := []) ⟨hx, hb, hml, hown, hts⟩ (xcX11_circlesAreEmpty l hst dC dI T a1 a2 a3 a4 a5 a6 a7 a8 a9 a10 a11 a18 a19 H.size) (cwV 0 hts gX11_isSound_X11_circlesAreEmpty rfl rfl rfl (by decide +kernel) ⟨Nat.le_of_ble_eq_true rfl, Nat.le_of_ble_eq_true rfl⟩) ⟨xBlind, va_recv hK hPc (ci := 16) (q0 := 0) rfl rfl, xCall hK hG hS hPc hDc hFc⟩ rfl rfl hl.1 rfl (lv_room (Nat.le_of_ble_eq_true rfl)) dX11_isSound_23 ⟨Nat.le_of_ble_eq_true rfl, Nat.le_of_ble_eq_true rfl⟩) hS (fun q _ h => hFc q h) hFc (fun r_9 u t H locs ht hvm hw hB hz1 hk1 hS => ?_)
  subst hw
  rcases hB with ⟨hr_9, hP1, hD1⟩
  rw [ht] at hP1
  subst hr_9
  obtain ⟨hP, hD⟩ := va_join (wr := [(a2, .inr (10, [.ref a12, .ref a13, .ref a14, .ref a15, .ref a16, .int 0, .int 0])), (a19, .inl (T 0, 12, .inl (fun _ => 0))), (a5, .inr (9, [.ref a20, .ref a21, .int 0, .int 0])), (a20, .inr (13, [.ref a22, .int 0])), (a22, .inl (T 0, 12, .inl g_2)), (a21, .inl (T 0, 12, .inl (fun _ => 0)))]) (w1 := [(a1, .inr (16, [.ref a2, .ref a3, .ref a4, .ref a5, .ref a6, .ref a7, .ref a8, .ref a9, .ref a10, .ref a11])), (a4, .inr (8, [.ref a18, .ref a19, .int 0, .int 0]))]) hP hD [0, 2] [1, 3, 4, 5, 6, 7] rfl rfl (by decide) (by decide) hk1 hFc hP1 hD1
  have hP := hP.sub (ws' := [(a1, .inr (16, [.ref a2, .ref a3, .ref a4, .ref a5, .ref a6, .ref a7, .ref a8, .ref a9, .ref a10, .ref a11])), (a2, .inr (10, [.ref a12, .ref a13, .ref a14, .ref a15, .ref a16, .int 0, .int 0])), (a4, .inr (8, [.ref a18, .ref a19, .int 0, .int 0])), (a19, .inl (T 0, 12, .inl (fun _ => 0))), (a5, .inr (9, [.ref a20, .ref a21, .int 0, .int 0])), (a20, .inr (13, [.ref a22, .int 0])), (a22, .inl (T 0, 12, .inl g_2)), (a21, .inl (T 0, 12, .inl (fun _ => 0)))]) [6, 0, 7, 1, 2, 3, 4, 5] rfl
  have hD := hD.sub (ws' := [(a1, .inr (16, [.ref a2, .ref a3, .ref a4, .ref a5, .ref a6, .ref a7, .ref a8, .ref a9, .ref a10, .ref a11])), (a2, .inr (10, [.ref a12, .ref a13, .ref a14, .ref a15, .ref a16, .int 0, .int 0])), (a4, .inr (8, [.ref a18, .ref a19, .int 0, .int 0])), (a19, .inl (T 0, 12, .inl (fun _ => 0))), (a5, .inr (9, [.ref a20, .ref a21, .int 0, .int 0])), (a20, .inr (13, [.ref a22, .int 0])), (a22, .inl (T 0, 12, .inl g_2)), (a21, .inl (T 0, 12, .inl (fun _ => 0)))]) [6, 0, 7, 1, 2, 3, 4, 5] (by decide) rfl
  clear hPc hDc hFc hP1 hD1 hk1 hz1 ht hvm
  refine lv_if_eq (tgt := 54) hx hb dX11_isSound_26 (by decide) (fun c_5 => absurd c_5 (by decide)) (fun c_5 => ?_)
  refine lv_aload_n hx hb dX11_isSound_29 rfl (lv_at hl 0 rfl) ?_
  have hPc := hP.sub (ws' := [(a1, .inr (16, [.ref a2, .ref a3, .ref a4, .ref a5, .ref a6, .ref a7, .ref a8, .ref a9, .ref a10, .ref a11])), (a2, .inr (10, [.ref a12, .ref a13, .ref a14, .ref a15, .ref a16, .int 0, .int 0]))]) [0, 1] rfl
  have hDc := hD.sub (ws' := [(a1, .inr (16, [.ref a2, .ref a3, .ref a4, .ref a5, .ref a6, .ref a7, .ref a8, .ref a9, .ref a10, .ref a11])), (a2, .inr (10, [.ref a12, .ref a13, .ref a14, .ref a15, .ref a16, .int 0, .int 0]))]) [0, 1] (by decide) rfl
  have hFc := va_free (wc := [(a1, .inr (16, [.ref a2, .ref a3, .ref a4, .ref a5, .ref a6, .ref a7, .ref a8, .ref a9, .ref a10, .ref a11])), (a2, .inr (10, [.ref a12, .ref a13, .ref a14, .ref a15, .ref a16, .int 0, .int 0]))]) hD hS hA [0, 1] rfl
  refine va_calli (va_runV (As := []) (rest := []) ⟨hx, hb, hml, hown, hts⟩ (xcX11_countsFit l hst dC dI T a1 a2 a3 a4 a5 a6 a7 a8 a9 a10 a11 a12 a13 a14 a15 a16 H.size) (cwV 0 hts gX11_isSound_X11_countsFit rfl rfl rfl (by decide +kernel) ⟨Nat.le_of_ble_eq_true rfl, Nat.le_of_ble_eq_true rfl⟩) ⟨xBlind, va_recv hK hPc (ci := 16) (q0 := 0) rfl rfl, xCall hK hG hS hPc hDc hFc⟩ rfl rfl hl.1 rfl (lv_room (Nat.le_of_ble_eq_true rfl)) dX11_isSound_30 ⟨Nat.le_of_ble_eq_true rfl, Nat.le_of_ble_eq_true rfl⟩) hS (fun q _ h => hFc q h) hFc (fun r_9 u t H locs ht hvm hw hB hz1 hk1 hS => ?_)
  subst hw
  rcases hB with ⟨hr_9, hP1, hD1⟩
  rw [ht] at hP1
  subst hr_9
  obtain ⟨hP, hD⟩ := va_join (wr := [(a4, .inr (8, [.ref a18, .ref a19, .int 0, .int 0])), (a19, .inl (T 0, 12, .inl (fun _ => 0))), (a5, .inr (9, [.ref a20, .ref a21, .int 0, .int 0])), (a20, .inr (13, [.ref a22, .int 0])), (a22, .inl (T 0, 12, .inl g_2)), (a21, .inl (T 0, 12, .inl (fun _ => 0)))]) (w1 := [(a1, .inr (16, [.ref a2, .ref a3, .ref a4, .ref a5, .ref a6, .ref a7, .ref a8, .ref a9, .ref a10, .ref a11])), (a2, .inr (10, [.ref a12, .ref a13, .ref a14, .ref a15, .ref a16, .int 0, .int 0]))]) hP hD [0, 1] [2, 3, 4, 5, 6, 7] rfl rfl (by decide) (by decide) hk1 hFc hP1 hD1
  have hP := hP.sub (ws' := [(a1, .inr (16, [.ref a2, .ref a3, .ref a4, .ref a5, .ref a6, .ref a7, .ref a8, .ref a9, .ref a10, .ref a11])), (a2, .inr (10, [.ref a12, .ref a13, .ref a14, .ref a15, .ref a16, .int 0, .int 0])), (a4, .inr (8, [.ref a18, .ref a19, .int 0, .int 0])), (a19, .inl (T 0, 12, .inl (fun _ => 0))), (a5, .inr (9, [.ref a20, .ref a21, .int 0, .int 0])), (a20, .inr (13, [.ref a22, .int 0])), (a22, .inl (T 0, 12, .inl g_2)), (a21, .inl (T 0, 12, .inl (fun _ => 0)))]) [6, 7, 0, 1, 2, 3, 4, 5] rfl
  have hD := hD.sub (ws' := [(a1, .inr (16, [.ref a2, .ref a3, .ref a4, .ref a5, .ref a6, .ref a7, .ref a8, .ref a9, .ref a10, .ref a11])), (a2, .inr (10, [.ref a12, .ref a13, .ref a14, .ref a15, .ref a16, .int 0, .int 0])), (a4, .inr (8, [.ref a18, .ref a19, .int 0, .int 0])), (a19, .inl (T 0, 12, .inl (fun _ => 0))), (a5, .inr (9, [.ref a20, .ref a21, .int 0, .int 0])), (a20, .inr (13, [.ref a22, .int 0])), (a22, .inl (T 0, 12, .inl g_2)), (a21, .inl (T 0, 12, .inl (fun _ => 0)))]) [6, 7, 0, 1, 2, 3, 4, 5] (by decide) rfl
  clear hPc hDc hFc hP1 hD1 hk1 hz1 ht hvm
  refine lv_if_eq (tgt := 54) hx hb dX11_isSound_33 (by decide) (fun c_7 => absurd c_7 (by decide)) (fun c_7 => ?_)
  refine lv_aload_n hx hb dX11_isSound_36 rfl (lv_at hl 0 rfl) ?_
  have hPc := hP.sub (ws' := [(a1, .inr (16, [.ref a2, .ref a3, .ref a4, .ref a5, .ref a6, .ref a7, .ref a8, .ref a9, .ref a10, .ref a11])), (a2, .inr (10, [.ref a12, .ref a13, .ref a14, .ref a15, .ref a16, .int 0, .int 0]))]) [0, 1] rfl
  have hDc := hD.sub (ws' := [(a1, .inr (16, [.ref a2, .ref a3, .ref a4, .ref a5, .ref a6, .ref a7, .ref a8, .ref a9, .ref a10, .ref a11])), (a2, .inr (10, [.ref a12, .ref a13, .ref a14, .ref a15, .ref a16, .int 0, .int 0]))]) [0, 1] (by decide) rfl
  have hFc := va_free (wc := [(a1, .inr (16, [.ref a2, .ref a3, .ref a4, .ref a5, .ref a6, .ref a7, .ref a8, .ref a9, .ref a10, .ref a11])), (a2, .inr (10, [.ref a12, .ref a13, .ref a14, .ref a15, .ref a16, .int 0, .int 0]))]) hD hS hA [0, 1] rfl
  refine va_calli (va_runV (As := []) (rest := []) ⟨hx, hb, hml, hown, hts⟩ (xcX11_treeIsOfNeighbours l hst dC dI T a1 a2 a3 a4 a5 a6 a7 a8 a9 a10 a11 a12 a13 a14 a15 a16 H.size) (cwV 0 hts gX11_isSound_X11_treeIsOfNeighbours rfl rfl rfl (by decide +kernel) ⟨Nat.le_of_ble_eq_true rfl, Nat.le_of_ble_eq_true rfl⟩) ⟨xBlind, va_recv hK hPc (ci := 16) (q0 := 0) rfl rfl, xCall hK hG hS hPc hDc hFc⟩ rfl rfl hl.1 rfl (lv_room (Nat.le_of_ble_eq_true rfl)) dX11_isSound_37 ⟨Nat.le_of_ble_eq_true rfl, Nat.le_of_ble_eq_true rfl⟩) hS (fun q _ h => hFc q h) hFc (fun r_9 u t H locs ht hvm hw hB hz1 hk1 hS => ?_)
  subst hw
  rcases hB with ⟨hr_9, hP1, hD1⟩
  rw [ht] at hP1
  subst hr_9
  obtain ⟨hP, hD⟩ := va_join (wr := [(a4, .inr (8, [.ref a18, .ref a19, .int 0, .int 0])), (a19, .inl (T 0, 12, .inl (fun _ => 0))), (a5, .inr (9, [.ref a20, .ref a21, .int 0, .int 0])), (a20, .inr (13, [.ref a22, .int 0])), (a22, .inl (T 0, 12, .inl g_2)), (a21, .inl (T 0, 12, .inl (fun _ => 0)))]) (w1 := [(a1, .inr (16, [.ref a2, .ref a3, .ref a4, .ref a5, .ref a6, .ref a7, .ref a8, .ref a9, .ref a10, .ref a11])), (a2, .inr (10, [.ref a12, .ref a13, .ref a14, .ref a15, .ref a16, .int 0, .int 0]))]) hP hD [0, 1] [2, 3, 4, 5, 6, 7] rfl rfl (by decide) (by decide) hk1 hFc hP1 hD1
  have hP := hP.sub (ws' := [(a1, .inr (16, [.ref a2, .ref a3, .ref a4, .ref a5, .ref a6, .ref a7, .ref a8, .ref a9, .ref a10, .ref a11])), (a2, .inr (10, [.ref a12, .ref a13, .ref a14, .ref a15, .ref a16, .int 0, .int 0])), (a4, .inr (8, [.ref a18, .ref a19, .int 0, .int 0])), (a19, .inl (T 0, 12, .inl (fun _ => 0))), (a5, .inr (9, [.ref a20, .ref a21, .int 0, .int 0])), (a20, .inr (13, [.ref a22, .int 0])), (a22, .inl (T 0, 12, .inl g_2)), (a21, .inl (T 0, 12, .inl (fun _ => 0)))]) [6, 7, 0, 1, 2, 3, 4, 5] rfl
  have hD := hD.sub (ws' := [(a1, .inr (16, [.ref a2, .ref a3, .ref a4, .ref a5, .ref a6, .ref a7, .ref a8, .ref a9, .ref a10, .ref a11])), (a2, .inr (10, [.ref a12, .ref a13, .ref a14, .ref a15, .ref a16, .int 0, .int 0])), (a4, .inr (8, [.ref a18, .ref a19, .int 0, .int 0])), (a19, .inl (T 0, 12, .inl (fun _ => 0))), (a5, .inr (9, [.ref a20, .ref a21, .int 0, .int 0])), (a20, .inr (13, [.ref a22, .int 0])), (a22, .inl (T 0, 12, .inl g_2)), (a21, .inl (T 0, 12, .inl (fun _ => 0)))]) [6, 7, 0, 1, 2, 3, 4, 5] (by decide) rfl
  clear hPc hDc hFc hP1 hD1 hk1 hz1 ht hvm
  refine lv_if_eq (tgt := 54) hx hb dX11_isSound_40 (by decide) (fun c_9 => absurd c_9 (by decide)) (fun c_9 => ?_)
  refine lv_aload_n hx hb dX11_isSound_43 rfl (lv_at hl 0 rfl) ?_
  have hPc := hP.sub (ws' := [(a1, .inr (16, [.ref a2, .ref a3, .ref a4, .ref a5, .ref a6, .ref a7, .ref a8, .ref a9, .ref a10, .ref a11])), (a2, .inr (10, [.ref a12, .ref a13, .ref a14, .ref a15, .ref a16, .int 0, .int 0]))]) [0, 1] rfl
  have hDc := hD.sub (ws' := [(a1, .inr (16, [.ref a2, .ref a3, .ref a4, .ref a5, .ref a6, .ref a7, .ref a8, .ref a9, .ref a10, .ref a11])), (a2, .inr (10, [.ref a12, .ref a13, .ref a14, .ref a15, .ref a16, .int 0, .int 0]))]) [0, 1] (by decide) rfl
  have hFc := va_free (wc := [(a1, .inr (16, [.ref a2, .ref a3, .ref a4, .ref a5, .ref a6, .ref a7, .ref a8, .ref a9, .ref a10, .ref a11])), (a2, .inr (10, [.ref a12, .ref a13, .ref a14, .ref a15, .ref a16, .int 0, .int 0]))]) hD hS hA [0, 1] rfl
  refine va_calli (va_runV (As := []) (rest := []) ⟨hx, hb, hml, hown, hts⟩ (xcX11_graphsAreNested l hst dC dI T a1 a2 a3 a4 a5 a6 a7 a8 a9 a10 a11 a12 a13 a14 a15 a16 H.size) (cwV 0 hts gX11_isSound_X11_graphsAreNested rfl rfl rfl (by decide +kernel) ⟨Nat.le_of_ble_eq_true rfl, Nat.le_of_ble_eq_true rfl⟩) ⟨xBlind, va_recv hK hPc (ci := 16) (q0 := 0) rfl rfl, xCall hK hG hS hPc hDc hFc⟩ rfl rfl hl.1 rfl (lv_room (Nat.le_of_ble_eq_true rfl)) dX11_isSound_44 ⟨Nat.le_of_ble_eq_true rfl, Nat.le_of_ble_eq_true rfl⟩) hS (fun q _ h => hFc q h) hFc (fun r_9 u t H locs ht hvm hw hB hz1 hk1 hS => ?_)
  subst hw
  rcases hB with ⟨hr_9, hP1, hD1⟩
  rw [ht] at hP1
  subst hr_9
  obtain ⟨hP, hD⟩ := va_join (wr := [(a4, .inr (8, [.ref a18, .ref a19, .int 0, .int 0])), (a19, .inl (T 0, 12, .inl (fun _ => 0))), (a5, .inr (9, [.ref a20, .ref a21, .int 0, .int 0])), (a20, .inr (13, [.ref a22, .int 0])), (a22, .inl (T 0, 12, .inl g_2)), (a21, .inl (T 0, 12, .inl (fun _ => 0)))]) (w1 := [(a1, .inr (16, [.ref a2, .ref a3, .ref a4, .ref a5, .ref a6, .ref a7, .ref a8, .ref a9, .ref a10, .ref a11])), (a2, .inr (10, [.ref a12, .ref a13, .ref a14, .ref a15, .ref a16, .int 0, .int 0]))]) hP hD [0, 1] [2, 3, 4, 5, 6, 7] rfl rfl (by decide) (by decide) hk1 hFc hP1 hD1
  have hP := hP.sub (ws' := [(a1, .inr (16, [.ref a2, .ref a3, .ref a4, .ref a5, .ref a6, .ref a7, .ref a8, .ref a9, .ref a10, .ref a11])), (a2, .inr (10, [.ref a12, .ref a13, .ref a14, .ref a15, .ref a16, .int 0, .int 0])), (a4, .inr (8, [.ref a18, .ref a19, .int 0, .int 0])), (a19, .inl (T 0, 12, .inl (fun _ => 0))), (a5, .inr (9, [.ref a20, .ref a21, .int 0, .int 0])), (a20, .inr (13, [.ref a22, .int 0])), (a22, .inl (T 0, 12, .inl g_2)), (a21, .inl (T 0, 12, .inl (fun _ => 0)))]) [6, 7, 0, 1, 2, 3, 4, 5] rfl
  have hD := hD.sub (ws' := [(a1, .inr (16, [.ref a2, .ref a3, .ref a4, .ref a5, .ref a6, .ref a7, .ref a8, .ref a9, .ref a10, .ref a11])), (a2, .inr (10, [.ref a12, .ref a13, .ref a14, .ref a15, .ref a16, .int 0, .int 0])), (a4, .inr (8, [.ref a18, .ref a19, .int 0, .int 0])), (a19, .inl (T 0, 12, .inl (fun _ => 0))), (a5, .inr (9, [.ref a20, .ref a21, .int 0, .int 0])), (a20, .inr (13, [.ref a22, .int 0])), (a22, .inl (T 0, 12, .inl g_2)), (a21, .inl (T 0, 12, .inl (fun _ => 0)))]) [6, 7, 0, 1, 2, 3, 4, 5] (by decide) rfl
  clear hPc hDc hFc hP1 hD1 hk1 hz1 ht hvm
  refine lv_if_eq (tgt := 54) hx hb dX11_isSound_47 (by decide) (fun c_11 => absurd c_11 (by decide)) (fun c_11 => ?_)
  refine lv_iconst (v := 1) hx hb dX11_isSound_50 (by decide) ?_
  refine lv_goto (tgt := 55) hx hb dX11_isSound_51 (by decide) ?_
  have hP9 := hP.sub (ws' := []) [] rfl
  have hD9 := hD.sub (ws' := []) [] (by decide) rfl
  exact W.zret (v := 1) hx hb hr (by decide) (fun t ht hW => ⟨⟨_, _, rfl, rfl, ⟨rfl, by rw [ht]; exact hP9, hD9⟩⟩, hS.F ht⟩) hS.2.2 dX11_isSound_55
set_option maxHeartbeats 4000000 in
set_option maxRecDepth 100000 in
theorem xcX11_leastGuards (l : Launch) (hst : l.stackTraces = false) (dC : Nat → ClassId) (dI : Nat → Nat → Nat) (T : Nat → ClassId) (a1 : Nat) (a2 : Nat) (a3 : Nat) (a4 : Nat) (a5 : Nat) (a6 : Nat) (a7 : Nat) (a8 : Nat) (a9 : Nat) (a10 : Nat) (a11 : Nat) (a12 : Nat) (a13 : Nat) (a14 : Nat) (a15 : Nat) (a16 : Nat) (a30 : Nat) (sz : Nat) : Met l yX11_leastGuards wsX11_leastGuards ({ frames := 2, cells := 0, slots := 0, locals := 43 } : Room) (va_Pc [.ref a1] (fun U => xB dC dI T [(a1, .inr (16, [.ref a2, .ref a3, .ref a4, .ref a5, .ref a6, .ref a7, .ref a8, .ref a9, .ref a10, .ref a11])), (a2, .inr (10, [.ref a12, .ref a13, .ref a14, .ref a15, .ref a16, .int 0, .int 0])), (a9, .inr (7, [.ref a30])), (a30, .inl (T 0, 12, .inl (fun _ => 0)))] sz U)) (va_Qi (fun (r u : Int32) => r = u) (fun (u : Int32) (t : State) => 0 = u ∧ xE dC dI [] (va_A [(a1, .inr (16, [.ref a2, .ref a3, .ref a4, .ref a5, .ref a6, .ref a7, .ref a8, .ref a9, .ref a10, .ref a11])), (a2, .inr (10, [.ref a12, .ref a13, .ref a14, .ref a15, .ref a16, .int 0, .int 0])), (a9, .inr (7, [.ref a30])), (a30, .inl (T 0, 12, .inl (fun _ => 0)))] sz) t) (va_A [(a1, .inr (16, [.ref a2, .ref a3, .ref a4, .ref a5, .ref a6, .ref a7, .ref a8, .ref a9, .ref a10, .ref a11])), (a2, .inr (10, [.ref a12, .ref a13, .ref a14, .ref a15, .ref a16, .int 0, .int 0])), (a9, .inr (7, [.ref a30])), (a30, .inl (T 0, 12, .inl (fun _ => 0)))] sz)) 0 0 (va_A [(a1, .inr (16, [.ref a2, .ref a3, .ref a4, .ref a5, .ref a6, .ref a7, .ref a8, .ref a9, .ref a10, .ref a11])), (a2, .inr (10, [.ref a12, .ref a13, .ref a14, .ref a15, .ref a16, .int 0, .int 0])), (a9, .inr (7, [.ref a30])), (a30, .inl (T 0, 12, .inl (fun _ => 0)))] sz) := by
  refine Met.ofW (cc := cX11_leastGuards) (maxL := 2) (ret := (some .int)) (by decide +kernel) rfl ?_
  intro p e s m args below meth c s₁ B hml hv
  obtain ⟨rfl, hsz, hP, hK, hD0, hG⟩ := hv
  have hx := B.exec
  have hb := B.bytes
  have hr := B.returns
  have hts := atoms_spec (ws := wsX11_leastGuards) B.pre
  have hown : s.vm.findClass RX11 = some m.cls := findClass_of_methodNamed B.named
  have hlocks := B.notSynchronized
  have hin_X11 : ∀ w ∈ wsX110, w ∈ wsX11_leastGuards := by decide +kernel
  have hin_X2 : ∀ w ∈ wsX20, w ∈ wsX11_leastGuards := by decide +kernel
  have hin_X5 : ∀ w ∈ wsX50, w ∈ wsX11_leastGuards := by decide +kernel
  subst hsz
  have hD := hD0.self (sz := s.heap.size)
  generalize hAe : va_A [(a1, .inr (16, [.ref a2, .ref a3, .ref a4, .ref a5, .ref a6, .ref a7, .ref a8, .ref a9, .ref a10, .ref a11])), (a2, .inr (10, [.ref a12, .ref a13, .ref a14, .ref a15, .ref a16, .int 0, .int 0])), (a9, .inr (7, [.ref a30])), (a30, .inl (T 0, 12, .inl (fun _ => 0)))] s.heap.size = A at hD hG ⊢
  have hA : ∀ q : Nat, s.heap.size ≤ q → A q := fun q h => by rw [← hAe]; exact Or.inr h
  have hS : va_S A s.heap s.heap [] := va_S.rf
  have hl := lv_entry ([.ref a1]) (n := 2) (Nat.le_of_ble_eq_true rfl)
  rw [lg_entry_eq]
  generalize (lg_sl ([.ref a1]) ++ List.replicate (2 - (lg_sl ([.ref a1])).length) Slot.unset).toArray = ls at hl ⊢
  have hl : lv_has ls 2 [(0, .ref a1)] := hl
  refine lv_iconst (v := 0) hx hb dX11_leastGuards_0 (by decide) ?_
  refine lv_istore_n (lv' := [(1, .int 0), (0, .ref a1)]) hx hb dX11_leastGuards_1 rfl hl (by decide) rfl (fun ls hl => ?_)
  refine xLoop (P := fun i_k_1 H locs ls => va_P (dC, dI) vwCl [(a1, .inr (16, [.ref a2, .ref a3, .ref a4, .ref a5, .ref a6, .ref a7, .ref a8, .ref a9, .ref a10, .ref a11])), (a2, .inr (10, [.ref a12, .ref a13, .ref a14, .ref a15, .ref a16, .int 0, .int 0])), (a9, .inr (7, [.ref a30])), (a30, .inl (T 0, 12, .inl (fun _ => 0)))] H ∧ va_D A [(a1, .inr (16, [.ref a2, .ref a3, .ref a4, .ref a5, .ref a6, .ref a7, .ref a8, .ref a9, .ref a10, .ref a11])), (a2, .inr (10, [.ref a12, .ref a13, .ref a14, .ref a15, .ref a16, .int 0, .int 0])), (a9, .inr (7, [.ref a30])), (a30, .inl (T 0, 12, .inl (fun _ => 0)))] ∧ va_S A s.heap H locs ∧ lv_has ls 2 [(1, .int (nI i_k_1)), (0, .ref a1)]) (N := 12) (fun i_k_1 H locs ls hi_k_1 hI ih_k_1 => ?_) (0) _ _ _ (by omega) ⟨hP, hD, hS, lv_sub hl [0, 1] rfl⟩
  obtain ⟨hP, hD, hS, hl⟩ := hI
  refine lv_iload_n hx hb dX11_leastGuards_2 rfl (lv_at hl 0 rfl) ?_
  refine lv_bipush (v := 12) hx hb dX11_leastGuards_3 (by decide) ?_
  have hz_3 : (nI i_k_1).toInt = ((i_k_1 : Nat) : Int) := nI_toInt (by omega)
  refine lv_icmp_ge (tgt := 47) hx hb dX11_leastGuards_5 (by decide) (fun c_2 => ?_) (fun c_2 => ?_)
  · have nc_2 : 12 ≤ (nI i_k_1).toInt := (xi_le (by decide +kernel) rfl).mp c_2
    refine lv_aload_n hx hb dX11_leastGuards_47 rfl (lv_at hl 1 rfl) ?_
    refine va_get (D := (dC, dI)) (ci := 16) (v := .ref a9) (C := RX11) (T := TX11) (N := 10) hx hb hts hin_X11 hown hK hP 0 rfl rfl 7 (by decide) (hts (.fieldLink RX11 61 "Nearestward" "cover" "LNearestward$Cover;") (by decide +kernel)) (fun _ h9 => h9) rfl dX11_leastGuards_48 ?_
    refine lv_aload_n hx hb dX11_leastGuards_51 rfl (lv_at hl 1 rfl) ?_
    refine va_get (D := (dC, dI)) (ci := 16) (v := .ref a2) (C := RX11) (T := TX11) (N := 10) hx hb hts hin_X11 hown hK hP 0 rfl rfl 0 (by decide) (hts (.fieldLink RX11 12 "Nearestward" "ground" "LNearestward$Ground;") (by decide +kernel)) (fun _ h9 => h9) rfl dX11_leastGuards_52 ?_
    refine va_get (D := (dC, dI)) (ci := 10) (v := .int 0) (C := RX5) (T := TX5) (N := 7) hx hb hts hin_X5 hown hK hP 1 rfl rfl 5 (by decide) (hts (.fieldLink RX11 297 "Nearestward$Ground" "there" "I") (by decide +kernel)) (fun _ h9 => h9) rfl dX11_leastGuards_55 ?_
    have hPc := hP.sub (ws' := [(a9, .inr (7, [.ref a30]))]) [2] rfl
    have hDc := hD.sub (ws' := [(a9, .inr (7, [.ref a30]))]) [2] (by decide) rfl
    have hFc := va_free (wc := [(a9, .inr (7, [.ref a30]))]) hD hS hA [2] rfl
    refine va_calli (va_runV (As := [.int 0]) (rest := []) ⟨hx, hb, hml, hown, hts⟩ (xcX2_fewestFor l hst dC dI T a9 a30 H.size) (cwV 1 hts gX11_leastGuards_X2_fewestFor rfl rfl rfl (by decide +kernel) ⟨Nat.le_of_ble_eq_true rfl, Nat.le_of_ble_eq_true rfl⟩) ⟨xBlind, va_recv hK hPc (ci := 7) (q0 := 0) rfl rfl, xCall hK hG hS hPc hDc hFc⟩ rfl rfl hl.1 rfl (lv_room (Nat.le_of_ble_eq_true rfl)) dX11_leastGuards_58 ⟨Nat.le_of_ble_eq_true rfl, Nat.le_of_ble_eq_true rfl⟩) hS (fun q _ h => hFc q h) hFc (fun r_9 u t H locs ht hvm hw hB hz1 hk1 hS => ?_)
    subst hw
    rcases hB with ⟨hr_9, hP1, hD1⟩
    rw [ht] at hP1
    subst hr_9
    obtain ⟨hP, hD⟩ := va_join (wr := [(a1, .inr (16, [.ref a2, .ref a3, .ref a4, .ref a5, .ref a6, .ref a7, .ref a8, .ref a9, .ref a10, .ref a11])), (a2, .inr (10, [.ref a12, .ref a13, .ref a14, .ref a15, .ref a16, .int 0, .int 0])), (a30, .inl (T 0, 12, .inl (fun _ => 0)))]) (w1 := [(a9, .inr (7, [.ref a30]))]) hP hD [2] [0, 1, 3] rfl rfl (by decide) (by decide) hk1 hFc hP1 hD1
    have hP := hP.sub (ws' := [(a1, .inr (16, [.ref a2, .ref a3, .ref a4, .ref a5, .ref a6, .ref a7, .ref a8, .ref a9, .ref a10, .ref a11])), (a2, .inr (10, [.ref a12, .ref a13, .ref a14, .ref a15, .ref a16, .int 0, .int 0])), (a9, .inr (7, [.ref a30])), (a30, .inl (T 0, 12, .inl (fun _ => 0)))]) [0, 1, 3, 2] rfl
    have hD := hD.sub (ws' := [(a1, .inr (16, [.ref a2, .ref a3, .ref a4, .ref a5, .ref a6, .ref a7, .ref a8, .ref a9, .ref a10, .ref a11])), (a2, .inr (10, [.ref a12, .ref a13, .ref a14, .ref a15, .ref a16, .int 0, .int 0])), (a9, .inr (7, [.ref a30])), (a30, .inl (T 0, 12, .inl (fun _ => 0)))]) [0, 1, 3, 2] (by decide) rfl
    clear hPc hDc hFc hP1 hD1 hk1 hz1 ht hvm
    have hP9 := hP.sub (ws' := []) [] rfl
    have hD9 := hD.sub (ws' := []) [] (by decide) rfl
    exact W.iret (v := 0) hx hb hr (fun t ht hW => ⟨⟨_, _, rfl, rfl, ⟨rfl, by rw [ht]; exact hP9, hD9⟩⟩, hS.F ht⟩) hS.2.2 dX11_leastGuards_61
  · have nc_2 : ¬ (12 ≤ (nI i_k_1).toInt) := mt (xi_le (by decide +kernel) rfl).mpr c_2
    refine lv_aload_n hx hb dX11_leastGuards_8 rfl (lv_at hl 1 rfl) ?_
    refine va_get (D := (dC, dI)) (ci := 16) (v := .ref a9) (C := RX11) (T := TX11) (N := 10) hx hb hts hin_X11 hown hK hP 0 rfl rfl 7 (by decide) (hts (.fieldLink RX11 61 "Nearestward" "cover" "LNearestward$Cover;") (by decide +kernel)) (fun _ h9 => h9) rfl dX11_leastGuards_9 ?_
    refine va_get (D := (dC, dI)) (ci := 7) (v := .ref a30) (C := RX2) (T := TX2) (N := 1) hx hb hts hin_X2 hown hK hP 2 rfl rfl 0 (by decide) (hts (.fieldLink RX11 294 "Nearestward$Cover" "reach" "[I") (by decide +kernel)) (fun _ h9 => h9) rfl dX11_leastGuards_12 ?_
    refine lv_iload_n hx hb dX11_leastGuards_15 rfl (lv_at hl 0 rfl) ?_
    refine lv_aload_n hx hb dX11_leastGuards_16 rfl (lv_at hl 1 rfl) ?_
    refine va_get (D := (dC, dI)) (ci := 16) (v := .ref a2) (C := RX11) (T := TX11) (N := 10) hx hb hts hin_X11 hown hK hP 0 rfl rfl 0 (by decide) (hts (.fieldLink RX11 12 "Nearestward" "ground" "LNearestward$Ground;") (by decide +kernel)) (fun _ h9 => h9) rfl dX11_leastGuards_17 ?_
    refine lv_iload_n hx hb dX11_leastGuards_20 rfl (lv_at hl 0 rfl) ?_
    have hPc := hP.sub (ws' := [(a2, .inr (10, [.ref a12, .ref a13, .ref a14, .ref a15, .ref a16, .int 0, .int 0]))]) [1] rfl
    have hDc := hD.sub (ws' := [(a2, .inr (10, [.ref a12, .ref a13, .ref a14, .ref a15, .ref a16, .int 0, .int 0]))]) [1] (by decide) rfl
    have hFc := va_free (wc := [(a2, .inr (10, [.ref a12, .ref a13, .ref a14, .ref a15, .ref a16, .int 0, .int 0]))]) hD hS hA [1] rfl
    refine va_calli (va_runV (As := [.int (nI i_k_1)]) (rest := [.int (nI i_k_1), .ref a30]) ⟨hx, hb, hml, hown, hts⟩ (xcX5_has l hst dC dI T a2 a12 a13 a14 a15 a16 H.size (nI i_k_1)) (cwV 1 hts gX11_leastGuards_X5_has rfl rfl rfl (by decide +kernel) ⟨Nat.le_of_ble_eq_true rfl, Nat.le_of_ble_eq_true rfl⟩) ⟨xBlind, va_recv hK hPc (ci := 10) (q0 := 0) rfl rfl, xCall hK hG hS hPc hDc hFc⟩ rfl rfl hl.1 rfl (lv_room (Nat.le_of_ble_eq_true rfl)) dX11_leastGuards_21 ⟨Nat.le_of_ble_eq_true rfl, Nat.le_of_ble_eq_true rfl⟩) hS (fun q _ h => hFc q h) hFc (fun r_9 u t H locs ht hvm hw hB hz1 hk1 hS => ?_)
    subst hw
    rcases hB with ⟨hr_9, hP1, hD1⟩
    rw [ht] at hP1
    subst hr_9
    obtain ⟨hP, hD⟩ := va_join (wr := [(a1, .inr (16, [.ref a2, .ref a3, .ref a4, .ref a5, .ref a6, .ref a7, .ref a8, .ref a9, .ref a10, .ref a11])), (a9, .inr (7, [.ref a30])), (a30, .inl (T 0, 12, .inl (fun _ => 0)))]) (w1 := [(a2, .inr (10, [.ref a12, .ref a13, .ref a14, .ref a15, .ref a16, .int 0, .int 0]))]) hP hD [1] [0, 2, 3] rfl rfl (by decide) (by decide) hk1 hFc hP1 hD1
    have hP := hP.sub (ws' := [(a1, .inr (16, [.ref a2, .ref a3, .ref a4, .ref a5, .ref a6, .ref a7, .ref a8, .ref a9, .ref a10, .ref a11])), (a2, .inr (10, [.ref a12, .ref a13, .ref a14, .ref a15, .ref a16, .int 0, .int 0])), (a9, .inr (7, [.ref a30])), (a30, .inl (T 0, 12, .inl (fun _ => 0)))]) [0, 3, 1, 2] rfl
    have hD := hD.sub (ws' := [(a1, .inr (16, [.ref a2, .ref a3, .ref a4, .ref a5, .ref a6, .ref a7, .ref a8, .ref a9, .ref a10, .ref a11])), (a2, .inr (10, [.ref a12, .ref a13, .ref a14, .ref a15, .ref a16, .int 0, .int 0])), (a9, .inr (7, [.ref a30])), (a30, .inl (T 0, 12, .inl (fun _ => 0)))]) [0, 3, 1, 2] (by decide) rfl
    clear hPc hDc hFc hP1 hD1 hk1 hz1 ht hvm
    refine lv_if_eq (tgt := 39) hx hb dX11_leastGuards_24 (by decide) (fun c_6 => ?_) (fun c_6 => absurd (by decide) c_6)
    refine lv_iconst (v := 0) hx hb dX11_leastGuards_39 (by decide) ?_
    refine va_iast hx hb hK hP hD hS 3 0 rfl rfl (vp_in_nI (by omega) (by decide)) dX11_leastGuards_40 (fun H locs hP hD hS => ?_)
    have hP : va_P (dC, dI) vwCl [(a1, .inr (16, [.ref a2, .ref a3, .ref a4, .ref a5, .ref a6, .ref a7, .ref a8, .ref a9, .ref a10, .ref a11])), (a2, .inr (10, [.ref a12, .ref a13, .ref a14, .ref a15, .ref a16, .int 0, .int 0])), (a9, .inr (7, [.ref a30])), (a30, .inl (T 0, 12, .inl (fun _ => 0)))] H := by have h9 : va_P (dC, dI) vwCl [(a1, .inr (16, [.ref a2, .ref a3, .ref a4, .ref a5, .ref a6, .ref a7, .ref a8, .ref a9, .ref a10, .ref a11])), (a2, .inr (10, [.ref a12, .ref a13, .ref a14, .ref a15, .ref a16, .int 0, .int 0])), (a9, .inr (7, [.ref a30])), (a30, .inl (T 0, 12, .inl (upd (fun _ => 0) ((nI i_k_1) : Int32).toNatClampNeg 0)))] H := hP; rw [xz] at h9; exact h9
    have hD : va_D A [(a1, .inr (16, [.ref a2, .ref a3, .ref a4, .ref a5, .ref a6, .ref a7, .ref a8, .ref a9, .ref a10, .ref a11])), (a2, .inr (10, [.ref a12, .ref a13, .ref a14, .ref a15, .ref a16, .int 0, .int 0])), (a9, .inr (7, [.ref a30])), (a30, .inl (T 0, 12, .inl (fun _ => 0)))] := by have h9 : va_D A [(a1, .inr (16, [.ref a2, .ref a3, .ref a4, .ref a5, .ref a6, .ref a7, .ref a8, .ref a9, .ref a10, .ref a11])), (a2, .inr (10, [.ref a12, .ref a13, .ref a14, .ref a15, .ref a16, .int 0, .int 0])), (a9, .inr (7, [.ref a30])), (a30, .inl (T 0, 12, .inl (upd (fun _ => 0) ((nI i_k_1) : Int32).toNatClampNeg 0)))] := hD; rw [xz] at h9; exact h9
    refine lv_iinc (v := (nI (i_k_1 + 1))) (lv' := [(1, .int (nI (i_k_1 + 1))), (0, .ref a1)]) hx hb dX11_leastGuards_41 hl (k := 0) rfl (nI_1 _) (by decide) rfl (fun ls hl => ?_)
    refine lv_goto (tgt := 2) hx hb dX11_leastGuards_44 (by decide) ?_
    exact ih_k_1 _ _ _ (by omega) ⟨hP, hD, hS, lv_sub hl [0, 1] rfl⟩
set_option maxHeartbeats 4000000 in
set_option maxRecDepth 100000 in
theorem xcX11_treeSum (l : Launch) (hst : l.stackTraces = false) (dC : Nat → ClassId) (dI : Nat → Nat → Nat) (T : Nat → ClassId) (a1 : Nat) (a2 : Nat) (a3 : Nat) (a4 : Nat) (a5 : Nat) (a6 : Nat) (a7 : Nat) (a8 : Nat) (a9 : Nat) (a10 : Nat) (a11 : Nat) (a12 : Nat) (a13 : Nat) (a14 : Nat) (a15 : Nat) (a16 : Nat) (a20 : Nat) (a21 : Nat) (a22 : Nat) (sz : Nat) : Met l yX11_treeSum wsX11_treeSum ({ frames := 4, cells := 0, slots := 0, locals := 86 } : Room) (va_Pc [.ref a1] (fun U => xB dC dI T [(a1, .inr (16, [.ref a2, .ref a3, .ref a4, .ref a5, .ref a6, .ref a7, .ref a8, .ref a9, .ref a10, .ref a11])), (a2, .inr (10, [.ref a12, .ref a13, .ref a14, .ref a15, .ref a16, .int 0, .int 0])), (a5, .inr (9, [.ref a20, .ref a21, .int 0, .int (-1)])), (a20, .inr (13, [.ref a22, .int 0])), (a22, .inl (T 0, 12, .inl (fun _ => 0))), (a21, .inl (T 0, 12, .inl (fun _ => 0)))] sz U)) (va_Qi (fun (r u : Int32) => r = u) (fun (u : Int32) (t : State) => 0 = u ∧ xE dC dI [] (va_A [(a1, .inr (16, [.ref a2, .ref a3, .ref a4, .ref a5, .ref a6, .ref a7, .ref a8, .ref a9, .ref a10, .ref a11])), (a2, .inr (10, [.ref a12, .ref a13, .ref a14, .ref a15, .ref a16, .int 0, .int 0])), (a5, .inr (9, [.ref a20, .ref a21, .int 0, .int (-1)])), (a20, .inr (13, [.ref a22, .int 0])), (a22, .inl (T 0, 12, .inl (fun _ => 0))), (a21, .inl (T 0, 12, .inl (fun _ => 0)))] sz) t) (va_A [(a1, .inr (16, [.ref a2, .ref a3, .ref a4, .ref a5, .ref a6, .ref a7, .ref a8, .ref a9, .ref a10, .ref a11])), (a2, .inr (10, [.ref a12, .ref a13, .ref a14, .ref a15, .ref a16, .int 0, .int 0])), (a5, .inr (9, [.ref a20, .ref a21, .int 0, .int (-1)])), (a20, .inr (13, [.ref a22, .int 0])), (a22, .inl (T 0, 12, .inl (fun _ => 0))), (a21, .inl (T 0, 12, .inl (fun _ => 0)))] sz)) 0 0 (va_A [(a1, .inr (16, [.ref a2, .ref a3, .ref a4, .ref a5, .ref a6, .ref a7, .ref a8, .ref a9, .ref a10, .ref a11])), (a2, .inr (10, [.ref a12, .ref a13, .ref a14, .ref a15, .ref a16, .int 0, .int 0])), (a5, .inr (9, [.ref a20, .ref a21, .int 0, .int (-1)])), (a20, .inr (13, [.ref a22, .int 0])), (a22, .inl (T 0, 12, .inl (fun _ => 0))), (a21, .inl (T 0, 12, .inl (fun _ => 0)))] sz) := by
  refine Met.ofW (cc := cX11_treeSum) (maxL := 1) (ret := (some .int)) (by decide +kernel) rfl ?_
  intro p e s m args below meth c s₁ B hml hv
  obtain ⟨rfl, hsz, hP, hK, hD0, hG⟩ := hv
  have hx := B.exec
  have hb := B.bytes
  have hr := B.returns
  have hts := atoms_spec (ws := wsX11_treeSum) B.pre
  have hown : s.vm.findClass RX11 = some m.cls := findClass_of_methodNamed B.named
  have hlocks := B.notSynchronized
  have hin_X11 : ∀ w ∈ wsX110, w ∈ wsX11_treeSum := by decide +kernel
  have hin_X4 : ∀ w ∈ wsX40, w ∈ wsX11_treeSum := by decide +kernel
  subst hsz
  have hD := hD0.self (sz := s.heap.size)
  generalize hAe : va_A [(a1, .inr (16, [.ref a2, .ref a3, .ref a4, .ref a5, .ref a6, .ref a7, .ref a8, .ref a9, .ref a10, .ref a11])), (a2, .inr (10, [.ref a12, .ref a13, .ref a14, .ref a15, .ref a16, .int 0, .int 0])), (a5, .inr (9, [.ref a20, .ref a21, .int 0, .int (-1)])), (a20, .inr (13, [.ref a22, .int 0])), (a22, .inl (T 0, 12, .inl (fun _ => 0))), (a21, .inl (T 0, 12, .inl (fun _ => 0)))] s.heap.size = A at hD hG ⊢
  have hA : ∀ q : Nat, s.heap.size ≤ q → A q := fun q h => by rw [← hAe]; exact Or.inr h
  have hS : va_S A s.heap s.heap [] := va_S.rf
  have hl := lv_entry ([.ref a1]) (n := 1) (Nat.le_of_ble_eq_true rfl)
  rw [lg_entry_eq]
  generalize (lg_sl ([.ref a1]) ++ List.replicate (1 - (lg_sl ([.ref a1])).length) Slot.unset).toArray = ls at hl ⊢
  have hl : lv_has ls 1 [(0, .ref a1)] := hl
  refine lv_aload_n hx hb dX11_treeSum_0 rfl (lv_at hl 0 rfl) ?_
  refine va_get (D := (dC, dI)) (ci := 16) (v := .ref a5) (C := RX11) (T := TX11) (N := 10) hx hb hts hin_X11 hown hK hP 0 rfl rfl 3 (by decide) (hts (.fieldLink RX11 33 "Nearestward" "graphs" "LNearestward$Graphs;") (by decide +kernel)) (fun _ h9 => h9) rfl dX11_treeSum_1 ?_
  refine lv_aload_n hx hb dX11_treeSum_4 rfl (lv_at hl 0 rfl) ?_
  refine va_get (D := (dC, dI)) (ci := 16) (v := .ref a2) (C := RX11) (T := TX11) (N := 10) hx hb hts hin_X11 hown hK hP 0 rfl rfl 0 (by decide) (hts (.fieldLink RX11 12 "Nearestward" "ground" "LNearestward$Ground;") (by decide +kernel)) (fun _ h9 => h9) rfl dX11_treeSum_5 ?_
  have hPc := hP.sub (ws' := [(a2, .inr (10, [.ref a12, .ref a13, .ref a14, .ref a15, .ref a16, .int 0, .int 0])), (a5, .inr (9, [.ref a20, .ref a21, .int 0, .int (-1)])), (a20, .inr (13, [.ref a22, .int 0])), (a22, .inl (T 0, 12, .inl (fun _ => 0))), (a21, .inl (T 0, 12, .inl (fun _ => 0)))]) [1, 2, 3, 4, 5] rfl
  have hDc := hD.sub (ws' := [(a2, .inr (10, [.ref a12, .ref a13, .ref a14, .ref a15, .ref a16, .int 0, .int 0])), (a5, .inr (9, [.ref a20, .ref a21, .int 0, .int (-1)])), (a20, .inr (13, [.ref a22, .int 0])), (a22, .inl (T 0, 12, .inl (fun _ => 0))), (a21, .inl (T 0, 12, .inl (fun _ => 0)))]) [1, 2, 3, 4, 5] (by decide) rfl
  have hFc := va_free (wc := [(a2, .inr (10, [.ref a12, .ref a13, .ref a14, .ref a15, .ref a16, .int 0, .int 0])), (a5, .inr (9, [.ref a20, .ref a21, .int 0, .int (-1)])), (a20, .inr (13, [.ref a22, .int 0])), (a22, .inl (T 0, 12, .inl (fun _ => 0))), (a21, .inl (T 0, 12, .inl (fun _ => 0)))]) hD hS hA [1, 2, 3, 4, 5] rfl
  refine va_callv (va_runV (As := [.ref a2]) (rest := []) ⟨hx, hb, hml, hown, hts⟩ (xcX4_growTree l hst dC dI T a5 a2 a12 a13 a14 a15 a16 a20 a21 a22 s.heap.size) (cwV 1 hts gX11_treeSum_X4_growTree rfl rfl rfl (by decide +kernel) ⟨Nat.le_of_ble_eq_true rfl, Nat.le_of_ble_eq_true rfl⟩) ⟨xBlind, va_recv hK hPc (ci := 9) (q0 := 1) rfl rfl, xCall hK hG hS hPc hDc hFc⟩ rfl rfl hl.1 rfl (lv_room (Nat.le_of_ble_eq_true rfl)) dX11_treeSum_8 ⟨Nat.le_of_ble_eq_true rfl, Nat.le_of_ble_eq_true rfl⟩) hS (fun q _ h => hFc q h) hFc (fun u t H locs ht hvm hw hB hz1 hk1 hS => ?_)
  rcases hB with ⟨g_1, hP1, hD1⟩
  rw [ht] at hP1
  obtain ⟨hP, hD⟩ := va_join (wr := [(a1, .inr (16, [.ref a2, .ref a3, .ref a4, .ref a5, .ref a6, .ref a7, .ref a8, .ref a9, .ref a10, .ref a11]))]) (w1 := [(a2, .inr (10, [.ref a12, .ref a13, .ref a14, .ref a15, .ref a16, .int 0, .int 0])), (a5, .inr (9, [.ref a20, .ref a21, .int 0, .int 0])), (a20, .inr (13, [.ref a22, .int 0])), (a22, .inl (T 0, 12, .inl g_1)), (a21, .inl (T 0, 12, .inl (fun _ => 0)))]) hP hD [1, 2, 3, 4, 5] [0] rfl rfl (by decide) (by decide) hk1 hFc hP1 hD1
  have hP : va_P (dC, dI) vwCl [(a1, .inr (16, [.ref a2, .ref a3, .ref a4, .ref a5, .ref a6, .ref a7, .ref a8, .ref a9, .ref a10, .ref a11])), (a2, .inr (10, [.ref a12, .ref a13, .ref a14, .ref a15, .ref a16, .int 0, .int 0])), (a5, .inr (9, [.ref a20, .ref a21, .int 0, .int 0])), (a20, .inr (13, [.ref a22, .int 0])), (a22, .inl (T 0, 12, .inl g_1)), (a21, .inl (T 0, 12, .inl (fun _ => 0)))] H := hP
  have hD : va_D A [(a1, .inr (16, [.ref a2, .ref a3, .ref a4, .ref a5, .ref a6, .ref a7, .ref a8, .ref a9, .ref a10, .ref a11])), (a2, .inr (10, [.ref a12, .ref a13, .ref a14, .ref a15, .ref a16, .int 0, .int 0])), (a5, .inr (9, [.ref a20, .ref a21, .int 0, .int 0])), (a20, .inr (13, [.ref a22, .int 0])), (a22, .inl (T 0, 12, .inl g_1)), (a21, .inl (T 0, 12, .inl (fun _ => 0)))] := hD
  clear hPc hDc hFc hP1 hD1 hk1 hz1 ht hvm
  refine lv_aload_n hx hb dX11_treeSum_11 rfl (lv_at hl 0 rfl) ?_
  refine va_get (D := (dC, dI)) (ci := 16) (v := .ref a5) (C := RX11) (T := TX11) (N := 10) hx hb hts hin_X11 hown hK hP 0 rfl rfl 3 (by decide) (hts (.fieldLink RX11 33 "Nearestward" "graphs" "LNearestward$Graphs;") (by decide +kernel)) (fun _ h9 => h9) rfl dX11_treeSum_12 ?_
  refine va_get (D := (dC, dI)) (ci := 9) (v := .int 0) (C := RX4) (T := TX4) (N := 4) hx hb hts hin_X4 hown hK hP 2 rfl rfl 2 (by decide) (hts (.fieldLink RX11 226 "Nearestward$Graphs" "treeDistance" "I") (by decide +kernel)) (fun _ h9 => h9) rfl dX11_treeSum_15 ?_
  have hP9 := hP.sub (ws' := []) [] rfl
  have hD9 := hD.sub (ws' := []) [] (by decide) rfl
  exact W.iret (v := 0) hx hb hr (fun t ht hW => ⟨⟨_, _, rfl, rfl, ⟨rfl, by rw [ht]; exact hP9, hD9⟩⟩, hS.F ht⟩) hS.2.2 dX11_treeSum_18
