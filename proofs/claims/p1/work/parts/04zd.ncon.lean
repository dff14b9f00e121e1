set_option maxHeartbeats 4000000 in
set_option maxRecDepth 100000 in
theorem xnX11_needSoMany (l : Launch) (hst : l.stackTraces = false) (dC : Nat → ClassId) (dI : Nat → Nat → Nat) (T : Nat → ClassId) (a1 : Nat) (a2 : Nat) (a3 : Nat) (a4 : Nat) (a5 : Nat) (a6 : Nat) (a7 : Nat) (a8 : Nat) (a9 : Nat) (a10 : Nat) (a11 : Nat) (a12 : Nat) (a13 : Nat) (a14 : Nat) (a15 : Nat) (a16 : Nat) (sz : Nat) (p1 : Int32) : vx_Met l yX11_needSoMany zsX11_needSoMany ({ frames := 6, cells := 1, slots := 6, locals := 82 } : Room) (va_Pc [.ref a1, .int p1] (fun U => xB dC dI T [(a1, .inr (16, [.ref a2, .ref a3, .ref a4, .ref a5, .ref a6, .ref a7, .ref a8, .ref a9, .ref a10, .ref a11])), (a2, .inr (10, [.ref a12, .ref a13, .ref a14, .ref a15, .ref a16, .int 0, .int 0]))] sz U)) (va_Qv (fun _ : Unit => True) (fun (_ : Unit) (t : State) => (p1.toInt ≤ 0) ∧ xE dC dI [(a1, .inr (16, [.ref a2, .ref a3, .ref a4, .ref a5, .ref a6, .ref a7, .ref a8, .ref a9, .ref a10, .ref a11])), (a2, .inr (10, [.ref a12, .ref a13, .ref a14, .ref a15, .ref a16, .int 0, .int 0]))] (va_A [(a1, .inr (16, [.ref a2, .ref a3, .ref a4, .ref a5, .ref a6, .ref a7, .ref a8, .ref a9, .ref a10, .ref a11])), (a2, .inr (10, [.ref a12, .ref a13, .ref a14, .ref a15, .ref a16, .int 0, .int 0]))] sz) t) (va_A [(a1, .inr (16, [.ref a2, .ref a3, .ref a4, .ref a5, .ref a6, .ref a7, .ref a8, .ref a9, .ref a10, .ref a11])), (a2, .inr (10, [.ref a12, .ref a13, .ref a14, .ref a15, .ref a16, .int 0, .int 0]))] sz)) (vx_X (fun _ : Unit => True) (fun (E : String) (_ : Unit) (t : State) => (¬ (p1.toInt ≤ 0)) ∧ E = "java/util/NoSuchElementException" ∧ xE dC dI [(a1, .inr (16, [.ref a2, .ref a3, .ref a4, .ref a5, .ref a6, .ref a7, .ref a8, .ref a9, .ref a10, .ref a11])), (a2, .inr (10, [.ref a12, .ref a13, .ref a14, .ref a15, .ref a16, .int 0, .int 0]))] (va_A [(a1, .inr (16, [.ref a2, .ref a3, .ref a4, .ref a5, .ref a6, .ref a7, .ref a8, .ref a9, .ref a10, .ref a11])), (a2, .inr (10, [.ref a12, .ref a13, .ref a14, .ref a15, .ref a16, .int 0, .int 0]))] sz) t) (va_A [(a1, .inr (16, [.ref a2, .ref a3, .ref a4, .ref a5, .ref a6, .ref a7, .ref a8, .ref a9, .ref a10, .ref a11])), (a2, .inr (10, [.ref a12, .ref a13, .ref a14, .ref a15, .ref a16, .int 0, .int 0]))] sz)) 1 6 (va_A [(a1, .inr (16, [.ref a2, .ref a3, .ref a4, .ref a5, .ref a6, .ref a7, .ref a8, .ref a9, .ref a10, .ref a11])), (a2, .inr (10, [.ref a12, .ref a13, .ref a14, .ref a15, .ref a16, .int 0, .int 0]))] sz) := by
  refine vx_ofW (cc := cX11_needSoMany) (maxL := 2) (ret := none) (by decide +kernel) rfl ?_
  intro p e s m args below meth c s₁ B hml hex hv
  obtain ⟨rfl, hsz, hP, hK, hD0, hG⟩ := hv
  have hx := B.exec
  have hb := B.bytes
  have hr := B.returns
  have hts := atoms_spec (ws := zsX11_needSoMany) B.pre
  have hown : s.vm.findClass RX11 = some m.cls := findClass_of_methodNamed B.named
  have hlocks := B.notSynchronized
  have hin_X11 : ∀ w ∈ wsX110, w ∈ zsX11_needSoMany := by decide +kernel
  have hm_140 : ∀ w ∈ (yAt RX11 140).filter goodWord, w ∈ zsX11_needSoMany := by decide +kernel
  have hat_140 : ∀ w ∈ yAt RX11 140, w.before (#[.ref a1, .int p1] : Array Value) s = true := vx_hat (B := xBad) (fun w hw => hts w (hm_140 w hw)) (by decide +kernel) (xBad_use hG.2.2.2.1)
  subst hsz
  have hD := hD0.self (sz := s.heap.size)
  generalize hAe : va_A [(a1, .inr (16, [.ref a2, .ref a3, .ref a4, .ref a5, .ref a6, .ref a7, .ref a8, .ref a9, .ref a10, .ref a11])), (a2, .inr (10, [.ref a12, .ref a13, .ref a14, .ref a15, .ref a16, .int 0, .int 0]))] s.heap.size = A at hD hG ⊢
  have hA : ∀ q : Nat, s.heap.size ≤ q → A q := fun q h => by rw [← hAe]; exact Or.inr h
  have hS : va_S A s.heap s.heap [] := va_S.rf
  have hl := lv_entry ([.ref a1, .int p1]) (n := 2) (Nat.le_of_ble_eq_true rfl)
  rw [lg_entry_eq]
  generalize (lg_sl ([.ref a1, .int p1]) ++ List.replicate (2 - (lg_sl ([.ref a1, .int p1])).length) Slot.unset).toArray = ls at hl ⊢
  have hl : lv_has ls 2 [(0, .ref a1), (1, .int p1)] := hl
  refine lv_aload_n hx hb dX11_needSoMany_0 rfl (lv_at hl 0 rfl) ?_
  refine va_get (D := (dC, dI)) (ci := 16) (v := .ref a2) (C := RX11) (T := TX11) (N := 10) hx hb hts hin_X11 hown hK hP 0 rfl rfl 0 (by decide) (hts (.fieldLink RX11 12 "Nearestward" "ground" "LNearestward$Ground;") (by decide +kernel)) (fun _ h9 => h9) rfl dX11_needSoMany_1 ?_
  have hPc := hP.sub (ws' := [(a2, .inr (10, [.ref a12, .ref a13, .ref a14, .ref a15, .ref a16, .int 0, .int 0]))]) [1] rfl
  have hDc := hD.sub (ws' := [(a2, .inr (10, [.ref a12, .ref a13, .ref a14, .ref a15, .ref a16, .int 0, .int 0]))]) [1] (by decide) rfl
  have hFc := va_free (wc := [(a2, .inr (10, [.ref a12, .ref a13, .ref a14, .ref a15, .ref a16, .int 0, .int 0]))]) hD hS hA [1] rfl
  refine va_calli (va_runV (As := []) (rest := []) ⟨hx, hb, hml, hown, hts⟩ (xcX5_count l hst dC dI T a2 a12 a13 a14 a15 a16 s.heap.size) (cwV 0 hts ygX11_needSoMany_X5_count rfl rfl rfl (by decide +kernel) ⟨Nat.le_of_ble_eq_true rfl, Nat.le_of_ble_eq_true rfl⟩) ⟨xBlind, va_recv hK hPc (ci := 10) (q0 := 0) rfl rfl, xCall hK hG hS hPc hDc hFc⟩ rfl rfl hl.1 rfl (lv_room (Nat.le_of_ble_eq_true rfl)) dX11_needSoMany_4 ⟨Nat.le_of_ble_eq_true rfl, Nat.le_of_ble_eq_true rfl⟩) hS (fun q _ h => hFc q h) hFc (fun r_9 u t H locs ht hvm hw hB hz1 hk1 hS => ?_)
  subst hw
  rcases hB with ⟨hr_9, hP1, hD1⟩
  rw [ht] at hP1
  subst hr_9
  obtain ⟨hP, hD⟩ := va_join (wr := [(a1, .inr (16, [.ref a2, .ref a3, .ref a4, .ref a5, .ref a6, .ref a7, .ref a8, .ref a9, .ref a10, .ref a11]))]) (w1 := [(a2, .inr (10, [.ref a12, .ref a13, .ref a14, .ref a15, .ref a16, .int 0, .int 0]))]) hP hD [1] [0] rfl rfl (by decide) (by decide) hk1 hFc hP1 hD1
  have hP : va_P (dC, dI) vwCl [(a1, .inr (16, [.ref a2, .ref a3, .ref a4, .ref a5, .ref a6, .ref a7, .ref a8, .ref a9, .ref a10, .ref a11])), (a2, .inr (10, [.ref a12, .ref a13, .ref a14, .ref a15, .ref a16, .int 0, .int 0]))] H := hP
  have hD : va_D A [(a1, .inr (16, [.ref a2, .ref a3, .ref a4, .ref a5, .ref a6, .ref a7, .ref a8, .ref a9, .ref a10, .ref a11])), (a2, .inr (10, [.ref a12, .ref a13, .ref a14, .ref a15, .ref a16, .int 0, .int 0]))] := hD
  clear hPc hDc hFc hP1 hD1 hk1 hz1 ht hvm
  refine lv_iload_n hx hb dX11_needSoMany_7 rfl (lv_at hl 1 rfl) ?_
  refine lv_icmp_ge (tgt := 22) hx hb dX11_needSoMany_8 (by decide) (fun c_2 => ?_) (fun c_2 => ?_)
  · have nc_2 : p1.toInt ≤ 0 := (xi_le rfl (by decide +kernel)).mp c_2
    refine vx_ret ?_
    have hP9 := hP.sub (ws' := [(a1, .inr (16, [.ref a2, .ref a3, .ref a4, .ref a5, .ref a6, .ref a7, .ref a8, .ref a9, .ref a10, .ref a11])), (a2, .inr (10, [.ref a12, .ref a13, .ref a14, .ref a15, .ref a16, .int 0, .int 0]))]) [0, 1] rfl
    have hD9 := hD.sub (ws' := [(a1, .inr (16, [.ref a2, .ref a3, .ref a4, .ref a5, .ref a6, .ref a7, .ref a8, .ref a9, .ref a10, .ref a11])), (a2, .inr (10, [.ref a12, .ref a13, .ref a14, .ref a15, .ref a16, .int 0, .int 0]))]) [0, 1] (by decide) rfl
    refine W.widen (k := 1) (n := 6) (Nat.le_of_ble_eq_true rfl) (Nat.le_of_ble_eq_true rfl) ?_
    exact W.vret hx hb hr (fun t ht hW => ⟨⟨(), rfl, trivial, ⟨nc_2, by rw [ht]; exact hP9, hD9⟩⟩, hS.F ht⟩) hS.2.2 dX11_needSoMany_22
  · have nc_2 : ¬ (p1.toInt ≤ 0) := mt (xi_le rfl (by decide +kernel)).mpr c_2
    obtain ⟨sa, hsa⟩ := hG.2.2.2.2.1 (RX11, 393, "there are fewer points") (by decide +kernel)
    have hP9 := hP.sub (ws' := [(a1, .inr (16, [.ref a2, .ref a3, .ref a4, .ref a5, .ref a6, .ref a7, .ref a8, .ref a9, .ref a10, .ref a11])), (a2, .inr (10, [.ref a12, .ref a13, .ref a14, .ref a15, .ref a16, .int 0, .int 0]))]) [0, 1] rfl
    have hD9 := hD.sub (ws' := [(a1, .inr (16, [.ref a2, .ref a3, .ref a4, .ref a5, .ref a6, .ref a7, .ref a8, .ref a9, .ref a10, .ref a11])), (a2, .inr (10, [.ref a12, .ref a13, .ref a14, .ref a15, .ref a16, .int 0, .int 0]))]) [0, 1] (by decide) rfl
    exact yThrow (text := "there are fewer points") (ic := 140) hx hb hst hown (hts (.classLink RX11 136 "java/util/NoSuchElementException") (by decide +kernel)) (hts (.initialized "java/util/NoSuchElementException") (by decide +kernel)) hsa hat_140 (by decide +kernel) hG.1 hG.2.1 hS (by rw [hml]; exact hl.1) 3 dX11_needSoMany_11 dX11_needSoMany_14 (Or.inr ⟨rfl, dX11_needSoMany_15⟩) dX11_needSoMany_18 dX11_needSoMany_21 (fun x hx => absurd (hex x hx) id) (Nat.le_of_ble_eq_true rfl) (Nat.le_of_ble_eq_true rfl) (Nat.le_of_ble_eq_true rfl) (Nat.le_of_ble_eq_true rfl) hlocks (fun t hvm hz1 hk1 => ⟨(), trivial, ⟨nc_2, rfl, hP9.kept (fun k x hx => hk1 x.1 ((hP9 k x hx).lt)), hD9⟩, xthrF hS hz1 hk1⟩) hS.2.2 (Nat.le_of_ble_eq_true rfl) (Nat.le_of_ble_eq_true rfl)
set_option maxHeartbeats 4000000 in
set_option maxRecDepth 100000 in
theorem xnX11_centre (l : Launch) (hst : l.stackTraces = false) (dC : Nat → ClassId) (dI : Nat → Nat → Nat) (T : Nat → ClassId) (a1 : Nat) (a2 : Nat) (a3 : Nat) (a4 : Nat) (a5 : Nat) (a6 : Nat) (a7 : Nat) (a8 : Nat) (a9 : Nat) (a10 : Nat) (a11 : Nat) (a12 : Nat) (a13 : Nat) (a14 : Nat) (a15 : Nat) (a16 : Nat) (sz : Nat) (p1 : Int32) (p2 : Int32) : vx_Met l yX11_centre zsX11_centre ({ frames := 7, cells := 3, slots := 18, locals := 104 } : Room) (va_Pc [.ref a1, .int p1, .int p2] (fun U => xB dC dI T [(a1, .inr (16, [.ref a2, .ref a3, .ref a4, .ref a5, .ref a6, .ref a7, .ref a8, .ref a9, .ref a10, .ref a11])), (a2, .inr (10, [.ref a12, .ref a13, .ref a14, .ref a15, .ref a16, .int 0, .int 0]))] sz U)) (va_Qi (fun (r u : Int32) => r = u) (fun (u : Int32) (t : State) => False) (va_A [(a1, .inr (16, [.ref a2, .ref a3, .ref a4, .ref a5, .ref a6, .ref a7, .ref a8, .ref a9, .ref a10, .ref a11])), (a2, .inr (10, [.ref a12, .ref a13, .ref a14, .ref a15, .ref a16, .int 0, .int 0]))] sz)) (vx_X (fun _ : Unit => True) (fun (E : String) (_ : Unit) (t : State) => ((((p1.toInt < 1) ∨ ((¬ (p1.toInt < 1)) ∧ (¬ (p1.toInt ≤ 4)))) ∨ (((¬ (p1.toInt < 1)) ∧ (p1.toInt ≤ 4)) ∧ ((p2.toInt < 0) ∨ ((¬ (p2.toInt < 0)) ∧ (¬ (p2.toInt ≤ (p1 - 1).toInt)))))) ∧ E = "java/lang/IllegalArgumentException" ∧ xE dC dI [] (va_A [(a1, .inr (16, [.ref a2, .ref a3, .ref a4, .ref a5, .ref a6, .ref a7, .ref a8, .ref a9, .ref a10, .ref a11])), (a2, .inr (10, [.ref a12, .ref a13, .ref a14, .ref a15, .ref a16, .int 0, .int 0]))] sz) t) ∨ ((((¬ (p1.toInt < 1)) ∧ (p1.toInt ≤ 4)) ∧ ((¬ (p2.toInt < 0)) ∧ (p2.toInt ≤ (p1 - 1).toInt)) ∧ (¬ (p1.toInt ≤ 0))) ∧ E = "java/util/NoSuchElementException" ∧ xE dC dI [] (va_A [(a1, .inr (16, [.ref a2, .ref a3, .ref a4, .ref a5, .ref a6, .ref a7, .ref a8, .ref a9, .ref a10, .ref a11])), (a2, .inr (10, [.ref a12, .ref a13, .ref a14, .ref a15, .ref a16, .int 0, .int 0]))] sz) t)) (va_A [(a1, .inr (16, [.ref a2, .ref a3, .ref a4, .ref a5, .ref a6, .ref a7, .ref a8, .ref a9, .ref a10, .ref a11])), (a2, .inr (10, [.ref a12, .ref a13, .ref a14, .ref a15, .ref a16, .int 0, .int 0]))] sz)) 3 18 (va_A [(a1, .inr (16, [.ref a2, .ref a3, .ref a4, .ref a5, .ref a6, .ref a7, .ref a8, .ref a9, .ref a10, .ref a11])), (a2, .inr (10, [.ref a12, .ref a13, .ref a14, .ref a15, .ref a16, .int 0, .int 0]))] sz) := by
  refine vx_ofW (cc := cX11_centre) (maxL := 3) (ret := (some .int)) (by decide +kernel) rfl ?_
  intro p e s m args below meth c s₁ B hml hex hv
  obtain ⟨rfl, hsz, hP, hK, hD0, hG⟩ := hv
  have hx := B.exec
  have hb := B.bytes
  have hr := B.returns
  have hts := atoms_spec (ws := zsX11_centre) B.pre
  have hown : s.vm.findClass RX11 = some m.cls := findClass_of_methodNamed B.named
  have hlocks := B.notSynchronized
  subst hsz
  have hD := hD0.self (sz := s.heap.size)
  generalize hAe : va_A [(a1, .inr (16, [.ref a2, .ref a3, .ref a4, .ref a5, .ref a6, .ref a7, .ref a8, .ref a9, .ref a10, .ref a11])), (a2, .inr (10, [.ref a12, .ref a13, .ref a14, .ref a15, .ref a16, .int 0, .int 0]))] s.heap.size = A at hD hG ⊢
  have hA : ∀ q : Nat, s.heap.size ≤ q → A q := fun q h => by rw [← hAe]; exact Or.inr h
  have hS : va_S A s.heap s.heap [] := va_S.rf
  have hl := lv_entry ([.ref a1, .int p1, .int p2]) (n := 3) (Nat.le_of_ble_eq_true rfl)
  rw [lg_entry_eq]
  generalize (lg_sl ([.ref a1, .int p1, .int p2]) ++ List.replicate (3 - (lg_sl ([.ref a1, .int p1, .int p2])).length) Slot.unset).toArray = ls at hl ⊢
  have hl : lv_has ls 3 [(0, .ref a1), (1, .int p1), (2, .int p2)] := hl
  refine lv_iload_n hx hb dX11_centre_0 rfl (lv_at hl 1 rfl) ?_
  refine lv_iconst (v := 1) hx hb dX11_centre_1 (by decide) ?_
  refine lv_iconst (v := 4) hx hb dX11_centre_2 (by decide) ?_
  have hPc := hP.sub (ws' := []) [] rfl
  have hDc := hD.sub (ws' := []) [] (by decide) rfl
  have hFc := va_free (wc := []) hD hS hA [] rfl
  refine vx_callv (vx_runS (As := [.int p1, .int 1, .int 4]) (rest := []) ⟨hx, hb, hml, hown, hts⟩ (xcX11_needRange_v2 l hst dC dI T s.heap.size p1) (cwS 3 hts ygX11_centre_X11_needRange rfl rfl rfl (by decide +kernel) ⟨Nat.le_of_ble_eq_true rfl, Nat.le_of_ble_eq_true rfl⟩) ⟨xBlind, xCall hK hG hS hPc hDc hFc⟩ rfl rfl hl.1 rfl (lv_room (Nat.le_of_ble_eq_true rfl)) dX11_centre_3 ⟨Nat.le_of_ble_eq_true rfl, Nat.le_of_ble_eq_true rfl⟩) hS (fun q _ h => hFc q h) hFc (fun q _ h => hFc q h) (fun E ce q9 u t H locs ht hvm hw hB hz1 hk1 hS hce hcv hcl => ?_) (fun u t H locs ht hvm hw hB hz1 hk1 hS => ?_)
  · rcases hB with ⟨c_1, hE, hP1, hD1⟩
    subst hE
    rw [ht] at hP1
    obtain ⟨hP, hD⟩ := va_join (wr := [(a1, .inr (16, [.ref a2, .ref a3, .ref a4, .ref a5, .ref a6, .ref a7, .ref a8, .ref a9, .ref a10, .ref a11])), (a2, .inr (10, [.ref a12, .ref a13, .ref a14, .ref a15, .ref a16, .int 0, .int 0]))]) (w1 := []) hP hD [] [0, 1] rfl rfl (by decide) (by decide) hk1 hFc hP1 hD1
    have hP : va_P (dC, dI) vwCl [(a1, .inr (16, [.ref a2, .ref a3, .ref a4, .ref a5, .ref a6, .ref a7, .ref a8, .ref a9, .ref a10, .ref a11])), (a2, .inr (10, [.ref a12, .ref a13, .ref a14, .ref a15, .ref a16, .int 0, .int 0]))] H := hP
    have hD : va_D A [(a1, .inr (16, [.ref a2, .ref a3, .ref a4, .ref a5, .ref a6, .ref a7, .ref a8, .ref a9, .ref a10, .ref a11])), (a2, .inr (10, [.ref a12, .ref a13, .ref a14, .ref a15, .ref a16, .int 0, .int 0]))] := hD
    clear hPc hDc hFc hP1 hD1 hk1 hz1 ht hvm
    have hP9 := hP.sub (ws' := []) [] rfl
    have hD9 := hD.sub (ws' := []) [] (by decide) rfl
    exact vx_out (fun x hx => absurd (hex x hx) id) hlocks hce hcv hcl (fun t ht _ => ⟨(), trivial, (Or.inl ⟨(Or.inl c_1), rfl, by rw [ht]; exact hP9, hD9⟩), hS.F ht⟩) hS.2.2 (Nat.le_of_ble_eq_true rfl) (Nat.le_of_ble_eq_true rfl)
  · rcases hB with ⟨c_2, hP1, hD1⟩
    rw [ht] at hP1
    obtain ⟨hP, hD⟩ := va_join (wr := [(a1, .inr (16, [.ref a2, .ref a3, .ref a4, .ref a5, .ref a6, .ref a7, .ref a8, .ref a9, .ref a10, .ref a11])), (a2, .inr (10, [.ref a12, .ref a13, .ref a14, .ref a15, .ref a16, .int 0, .int 0]))]) (w1 := []) hP hD [] [0, 1] rfl rfl (by decide) (by decide) hk1 hFc hP1 hD1
    have hP : va_P (dC, dI) vwCl [(a1, .inr (16, [.ref a2, .ref a3, .ref a4, .ref a5, .ref a6, .ref a7, .ref a8, .ref a9, .ref a10, .ref a11])), (a2, .inr (10, [.ref a12, .ref a13, .ref a14, .ref a15, .ref a16, .int 0, .int 0]))] H := hP
    have hD : va_D A [(a1, .inr (16, [.ref a2, .ref a3, .ref a4, .ref a5, .ref a6, .ref a7, .ref a8, .ref a9, .ref a10, .ref a11])), (a2, .inr (10, [.ref a12, .ref a13, .ref a14, .ref a15, .ref a16, .int 0, .int 0]))] := hD
    clear hPc hDc hFc hP1 hD1 hk1 hz1 ht hvm
    refine lv_iload_n hx hb dX11_centre_6 rfl (lv_at hl 2 rfl) ?_
    refine lv_iconst (v := 0) hx hb dX11_centre_7 (by decide) ?_
    refine lv_iload_n hx hb dX11_centre_8 rfl (lv_at hl 1 rfl) ?_
    refine lv_iconst (v := 1) hx hb dX11_centre_9 (by decide) ?_
    refine lv_isub hx hb dX11_centre_10 ?_
    have hPc := hP.sub (ws' := []) [] rfl
    have hDc := hD.sub (ws' := []) [] (by decide) rfl
    have hFc := va_free (wc := []) hD hS hA [] rfl
    refine vx_callv (vx_runS (As := [.int p2, .int 0, .int (p1 - 1)]) (rest := []) ⟨hx, hb, hml, hown, hts⟩ (xcX11_needRange_v3 l hst dC dI T H.size p2 (p1 - 1)) (cwS 3 hts ygX11_centre_X11_needRange rfl rfl rfl (by decide +kernel) ⟨Nat.le_of_ble_eq_true rfl, Nat.le_of_ble_eq_true rfl⟩) ⟨xBlind, xCall hK hG hS hPc hDc hFc⟩ rfl rfl hl.1 rfl (lv_room (Nat.le_of_ble_eq_true rfl)) dX11_centre_11 ⟨Nat.le_of_ble_eq_true rfl, Nat.le_of_ble_eq_true rfl⟩) hS (fun q _ h => hFc q h) hFc (fun q _ h => hFc q h) (fun E ce q9 u t H locs ht hvm hw hB hz1 hk1 hS hce hcv hcl => ?_) (fun u t H locs ht hvm hw hB hz1 hk1 hS => ?_)
    · rcases hB with ⟨c_3, hE, hP1, hD1⟩
      have hz_4 : -2147483648 + 1 ≤ p1.toInt → (p1 - 1).toInt = p1.toInt - 1 := xsubi (by decide +kernel) (by decide)
      subst hE
      rw [ht] at hP1
      obtain ⟨hP, hD⟩ := va_join (wr := [(a1, .inr (16, [.ref a2, .ref a3, .ref a4, .ref a5, .ref a6, .ref a7, .ref a8, .ref a9, .ref a10, .ref a11])), (a2, .inr (10, [.ref a12, .ref a13, .ref a14, .ref a15, .ref a16, .int 0, .int 0]))]) (w1 := []) hP hD [] [0, 1] rfl rfl (by decide) (by decide) hk1 hFc hP1 hD1
      have hP : va_P (dC, dI) vwCl [(a1, .inr (16, [.ref a2, .ref a3, .ref a4, .ref a5, .ref a6, .ref a7, .ref a8, .ref a9, .ref a10, .ref a11])), (a2, .inr (10, [.ref a12, .ref a13, .ref a14, .ref a15, .ref a16, .int 0, .int 0]))] H := hP
      have hD : va_D A [(a1, .inr (16, [.ref a2, .ref a3, .ref a4, .ref a5, .ref a6, .ref a7, .ref a8, .ref a9, .ref a10, .ref a11])), (a2, .inr (10, [.ref a12, .ref a13, .ref a14, .ref a15, .ref a16, .int 0, .int 0]))] := hD
      clear hPc hDc hFc hP1 hD1 hk1 hz1 ht hvm
      have hP9 := hP.sub (ws' := []) [] rfl
      have hD9 := hD.sub (ws' := []) [] (by decide) rfl
      exact vx_out (fun x hx => absurd (hex x hx) id) hlocks hce hcv hcl (fun t ht _ => ⟨(), trivial, (Or.inl ⟨(Or.inr (⟨c_2, c_3⟩)), rfl, by rw [ht]; exact hP9, hD9⟩), hS.F ht⟩) hS.2.2 (Nat.le_of_ble_eq_true rfl) (Nat.le_of_ble_eq_true rfl)
    · rcases hB with ⟨c_5, hP1, hD1⟩
      have hz_6 : -2147483648 + 1 ≤ p1.toInt → (p1 - 1).toInt = p1.toInt - 1 := xsubi (by decide +kernel) (by decide)
      rw [ht] at hP1
      obtain ⟨hP, hD⟩ := va_join (wr := [(a1, .inr (16, [.ref a2, .ref a3, .ref a4, .ref a5, .ref a6, .ref a7, .ref a8, .ref a9, .ref a10, .ref a11])), (a2, .inr (10, [.ref a12, .ref a13, .ref a14, .ref a15, .ref a16, .int 0, .int 0]))]) (w1 := []) hP hD [] [0, 1] rfl rfl (by decide) (by decide) hk1 hFc hP1 hD1
      have hP : va_P (dC, dI) vwCl [(a1, .inr (16, [.ref a2, .ref a3, .ref a4, .ref a5, .ref a6, .ref a7, .ref a8, .ref a9, .ref a10, .ref a11])), (a2, .inr (10, [.ref a12, .ref a13, .ref a14, .ref a15, .ref a16, .int 0, .int 0]))] H := hP
      have hD : va_D A [(a1, .inr (16, [.ref a2, .ref a3, .ref a4, .ref a5, .ref a6, .ref a7, .ref a8, .ref a9, .ref a10, .ref a11])), (a2, .inr (10, [.ref a12, .ref a13, .ref a14, .ref a15, .ref a16, .int 0, .int 0]))] := hD
      clear hPc hDc hFc hP1 hD1 hk1 hz1 ht hvm
      refine lv_aload_n hx hb dX11_centre_14 rfl (lv_at hl 0 rfl) ?_
      refine lv_iload_n hx hb dX11_centre_15 rfl (lv_at hl 1 rfl) ?_
      have hPc := hP.sub (ws' := [(a1, .inr (16, [.ref a2, .ref a3, .ref a4, .ref a5, .ref a6, .ref a7, .ref a8, .ref a9, .ref a10, .ref a11])), (a2, .inr (10, [.ref a12, .ref a13, .ref a14, .ref a15, .ref a16, .int 0, .int 0]))]) [0, 1] rfl
      have hDc := hD.sub (ws' := [(a1, .inr (16, [.ref a2, .ref a3, .ref a4, .ref a5, .ref a6, .ref a7, .ref a8, .ref a9, .ref a10, .ref a11])), (a2, .inr (10, [.ref a12, .ref a13, .ref a14, .ref a15, .ref a16, .int 0, .int 0]))]) [0, 1] (by decide) rfl
      have hFc := va_free (wc := [(a1, .inr (16, [.ref a2, .ref a3, .ref a4, .ref a5, .ref a6, .ref a7, .ref a8, .ref a9, .ref a10, .ref a11])), (a2, .inr (10, [.ref a12, .ref a13, .ref a14, .ref a15, .ref a16, .int 0, .int 0]))]) hD hS hA [0, 1] rfl
      refine vx_callv (vx_runV (As := [.int p1]) (rest := []) ⟨hx, hb, hml, hown, hts⟩ (xnX11_needSoMany l hst dC dI T a1 a2 a3 a4 a5 a6 a7 a8 a9 a10 a11 a12 a13 a14 a15 a16 H.size p1) (cwV 1 hts ygX11_centre_X11_needSoMany rfl rfl rfl (by decide +kernel) ⟨Nat.le_of_ble_eq_true rfl, Nat.le_of_ble_eq_true rfl⟩) ⟨xBlind, va_recv hK hPc (ci := 16) (q0 := 0) rfl rfl, xCall hK hG hS hPc hDc hFc⟩ rfl rfl hl.1 rfl (lv_room (Nat.le_of_ble_eq_true rfl)) dX11_centre_16 ⟨Nat.le_of_ble_eq_true rfl, Nat.le_of_ble_eq_true rfl⟩) hS (fun q _ h => hFc q h) hFc (fun q _ h => hFc q h) (fun E ce q9 u t H locs ht hvm hw hB hz1 hk1 hS hce hcv hcl => ?_) (fun u t H locs ht hvm hw hB hz1 hk1 hS => ?_)
      · rcases hB with ⟨c_7, hE, hP1, hD1⟩
        subst hE
        rw [ht] at hP1
        obtain ⟨hP, hD⟩ := va_join (wr := []) (w1 := [(a1, .inr (16, [.ref a2, .ref a3, .ref a4, .ref a5, .ref a6, .ref a7, .ref a8, .ref a9, .ref a10, .ref a11])), (a2, .inr (10, [.ref a12, .ref a13, .ref a14, .ref a15, .ref a16, .int 0, .int 0]))]) hP hD [0, 1] [] rfl rfl (by decide) (by decide) hk1 hFc hP1 hD1
        have hP : va_P (dC, dI) vwCl [(a1, .inr (16, [.ref a2, .ref a3, .ref a4, .ref a5, .ref a6, .ref a7, .ref a8, .ref a9, .ref a10, .ref a11])), (a2, .inr (10, [.ref a12, .ref a13, .ref a14, .ref a15, .ref a16, .int 0, .int 0]))] H := hP
        have hD : va_D A [(a1, .inr (16, [.ref a2, .ref a3, .ref a4, .ref a5, .ref a6, .ref a7, .ref a8, .ref a9, .ref a10, .ref a11])), (a2, .inr (10, [.ref a12, .ref a13, .ref a14, .ref a15, .ref a16, .int 0, .int 0]))] := hD
        clear hPc hDc hFc hP1 hD1 hk1 hz1 ht hvm
        have hP9 := hP.sub (ws' := []) [] rfl
        have hD9 := hD.sub (ws' := []) [] (by decide) rfl
        exact vx_out (fun x hx => absurd (hex x hx) id) hlocks hce hcv hcl (fun t ht _ => ⟨(), trivial, (Or.inr (⟨⟨c_2, c_5, c_7⟩, rfl, by rw [ht]; exact hP9, hD9⟩)), hS.F ht⟩) hS.2.2 (Nat.le_of_ble_eq_true rfl) (Nat.le_of_ble_eq_true rfl)
      · rcases hB with ⟨c_8, hP1, hD1⟩
        exact absurd c_8 (by omega)
set_option maxHeartbeats 4000000 in
set_option maxRecDepth 100000 in
theorem xnL_centre (l : Launch) (hst : l.stackTraces = false) (dC : Nat → ClassId) (dI : Nat → Nat → Nat) (T : Nat → ClassId) (a1 : Nat) (a2 : Nat) (a3 : Nat) (a4 : Nat) (a5 : Nat) (a6 : Nat) (a7 : Nat) (a8 : Nat) (a9 : Nat) (a10 : Nat) (a11 : Nat) (a12 : Nat) (a13 : Nat) (a14 : Nat) (a15 : Nat) (a16 : Nat) (a17 : Nat) (sz : Nat) (p1 : Int32) (p2 : Int32) : Met l yL_centre zsL_centre ({ frames := 8, cells := 3, slots := 18, locals := 126 } : Room) (va_Pc [.ref a1, .int p1, .int p2, .ref a2] (fun U => xB dC dI T [(a1, .inr (16, [.ref a3, .ref a4, .ref a5, .ref a6, .ref a7, .ref a8, .ref a9, .ref a10, .ref a11, .ref a12])), (a3, .inr (10, [.ref a13, .ref a14, .ref a15, .ref a16, .ref a17, .int 0, .int 0]))] sz U)) (va_Qi (fun (r u : Int32) => r = u) (fun (u : Int32) (t : State) => ((((p1.toInt < 1) ∨ ((¬ (p1.toInt < 1)) ∧ (¬ (p1.toInt ≤ 4)))) ∨ (((¬ (p1.toInt < 1)) ∧ (p1.toInt ≤ 4)) ∧ ((p2.toInt < 0) ∨ ((¬ (p2.toInt < 0)) ∧ (¬ (p2.toInt ≤ (p1 - 1).toInt)))))) ∧ 1 = u ∧ xE dC dI [] (va_A [(a1, .inr (16, [.ref a3, .ref a4, .ref a5, .ref a6, .ref a7, .ref a8, .ref a9, .ref a10, .ref a11, .ref a12])), (a3, .inr (10, [.ref a13, .ref a14, .ref a15, .ref a16, .ref a17, .int 0, .int 0]))] sz) t) ∨ ((((¬ (p1.toInt < 1)) ∧ (p1.toInt ≤ 4)) ∧ ((¬ (p2.toInt < 0)) ∧ (p2.toInt ≤ (p1 - 1).toInt)) ∧ (¬ (p1.toInt ≤ 0))) ∧ 2 = u ∧ xE dC dI [] (va_A [(a1, .inr (16, [.ref a3, .ref a4, .ref a5, .ref a6, .ref a7, .ref a8, .ref a9, .ref a10, .ref a11, .ref a12])), (a3, .inr (10, [.ref a13, .ref a14, .ref a15, .ref a16, .ref a17, .int 0, .int 0]))] sz) t)) (va_A [(a1, .inr (16, [.ref a3, .ref a4, .ref a5, .ref a6, .ref a7, .ref a8, .ref a9, .ref a10, .ref a11, .ref a12])), (a3, .inr (10, [.ref a13, .ref a14, .ref a15, .ref a16, .ref a17, .int 0, .int 0]))] sz)) 3 18 (va_A [(a1, .inr (16, [.ref a3, .ref a4, .ref a5, .ref a6, .ref a7, .ref a8, .ref a9, .ref a10, .ref a11, .ref a12])), (a3, .inr (10, [.ref a13, .ref a14, .ref a15, .ref a16, .ref a17, .int 0, .int 0]))] sz) := by
  refine va_MetW (cc := cL_centre) (maxL := 5) (ret := (some .int)) (hh := [(0, 10, 13, 13), (0, 10, 17, 35)]) (by decide +kernel) rfl ?_
  intro p e s m args below meth c s₁ B hml hv
  obtain ⟨rfl, hsz, hP, hK, hD0, hG⟩ := hv
  have hx := B.exec
  have hb := B.bytes
  have hr := B.returns
  have hts := atoms_spec (ws := zsL_centre) B.pre
  have hown : s.vm.findClass RL = some m.cls := findClass_of_methodNamed B.named
  have hlocks := B.notSynchronized
  have htab := vx_table (x := yL_centre) B (hts (.codeWith yL_centre cL_centre 5 (some .int) [(0, 10, 13, 13), (0, 10, 17, 35)]) (by decide +kernel))
  subst hsz
  have hD := hD0.self (sz := s.heap.size)
  generalize hAe : va_A [(a1, .inr (16, [.ref a3, .ref a4, .ref a5, .ref a6, .ref a7, .ref a8, .ref a9, .ref a10, .ref a11, .ref a12])), (a3, .inr (10, [.ref a13, .ref a14, .ref a15, .ref a16, .ref a17, .int 0, .int 0]))] s.heap.size = A at hD hG ⊢
  have hA : ∀ q : Nat, s.heap.size ≤ q → A q := fun q h => by rw [← hAe]; exact Or.inr h
  have hS : va_S A s.heap s.heap [] := va_S.rf
  have hl := lv_entry ([.ref a1, .int p1, .int p2, .ref a2]) (n := 5) (Nat.le_of_ble_eq_true rfl)
  rw [lg_entry_eq]
  generalize (lg_sl ([.ref a1, .int p1, .int p2, .ref a2]) ++ List.replicate (5 - (lg_sl ([.ref a1, .int p1, .int p2, .ref a2])).length) Slot.unset).toArray = ls at hl ⊢
  have hl : lv_has ls 5 [(0, .ref a1), (1, .int p1), (2, .int p2), (3, .ref a2)] := hl
  refine lv_aload_n hx hb dL_centre_0 rfl (lv_at hl 3 rfl) ?_
  refine lv_iconst (v := 0) hx hb dL_centre_1 (by decide) ?_
  refine lv_aload_n hx hb dL_centre_2 rfl (lv_at hl 0 rfl) ?_
  refine lv_iload_n hx hb dL_centre_3 rfl (lv_at hl 1 rfl) ?_
  refine lv_iload_n hx hb dL_centre_4 rfl (lv_at hl 2 rfl) ?_
  have hPc := hP.sub (ws' := [(a1, .inr (16, [.ref a3, .ref a4, .ref a5, .ref a6, .ref a7, .ref a8, .ref a9, .ref a10, .ref a11, .ref a12])), (a3, .inr (10, [.ref a13, .ref a14, .ref a15, .ref a16, .ref a17, .int 0, .int 0]))]) [0, 1] rfl
  have hDc := hD.sub (ws' := [(a1, .inr (16, [.ref a3, .ref a4, .ref a5, .ref a6, .ref a7, .ref a8, .ref a9, .ref a10, .ref a11, .ref a12])), (a3, .inr (10, [.ref a13, .ref a14, .ref a15, .ref a16, .ref a17, .int 0, .int 0]))]) [0, 1] (by decide) rfl
  have hFc := va_free (wc := [(a1, .inr (16, [.ref a3, .ref a4, .ref a5, .ref a6, .ref a7, .ref a8, .ref a9, .ref a10, .ref a11, .ref a12])), (a3, .inr (10, [.ref a13, .ref a14, .ref a15, .ref a16, .ref a17, .int 0, .int 0]))]) hD hS hA [0, 1] rfl
  refine vx_calli (vx_runV (As := [.int p1, .int p2]) (rest := [.int 0, .ref a2]) ⟨hx, hb, hml, hown, hts⟩ (xnX11_centre l hst dC dI T a1 a3 a4 a5 a6 a7 a8 a9 a10 a11 a12 a13 a14 a15 a16 a17 s.heap.size p1 p2) (cwV 2 hts ygL_centre_X11_centre rfl rfl rfl (by decide +kernel) ⟨Nat.le_of_ble_eq_true rfl, Nat.le_of_ble_eq_true rfl⟩) ⟨xBlind, va_recv hK hPc (ci := 16) (q0 := 0) rfl rfl, xCall hK hG hS hPc hDc hFc⟩ rfl rfl hl.1 rfl (lv_room (Nat.le_of_ble_eq_true rfl)) dL_centre_5 ⟨Nat.le_of_ble_eq_true rfl, Nat.le_of_ble_eq_true rfl⟩) hS (fun q _ h => hFc q h) hFc (fun q _ h => hFc q h) (fun E ce q9 u t H locs ht hvm hw hB hz1 hk1 hS hce hcv hcl => ?_) (fun r_9 u t H locs ht hvm hw hB hz1 hk1 hS => ?_)
  · rcases hB with ⟨c_1, hE, hP1, hD1⟩ | ⟨c_2, hE, hP1, hD1⟩
    · have hz_3 : -2147483648 + 1 ≤ p1.toInt → (p1 - 1).toInt = p1.toInt - 1 := xsubi (by decide +kernel) (by decide)
      subst hE
      rw [ht] at hP1
      obtain ⟨hP, hD⟩ := va_join (wr := []) (w1 := []) hP hD [0, 1] [] rfl rfl (by decide) (by decide) hk1 hFc hP1 hD1
      have hP : va_P (dC, dI) vwCl [] H := hP
      have hD : va_D A [] := hD
      clear hPc hDc hFc hP1 hD1 hk1 hz1 ht hvm
      refine vx_catch (E := "java/lang/IllegalArgumentException") (name := "java/lang/IllegalArgumentException") hown [] ⟨0, 10, 13, 13⟩ [⟨0, 10, 17, 35⟩] (htab.trans rfl) (fun _ h => absurd h List.not_mem_nil) (by decide) (by decide) (hts (.classLink RL 13 "java/lang/IllegalArgumentException") (by decide +kernel)) (xBad_use hG.2.2.2.1 _ (by decide +kernel)) hce hcv hcl ?_
      refine lv_astore (lv' := [(4, .ref q9), (0, .ref a1), (1, .int p1), (2, .int p2), (3, .ref a2)]) hx hb dL_centre_13 hl (by decide) rfl (fun ls hl => ?_)
      refine lv_iconst (v := 1) hx hb dL_centre_15 (by decide) ?_
      have hP9 := hP.sub (ws' := []) [] rfl
      have hD9 := hD.sub (ws' := []) [] (by decide) rfl
      exact W.iret (v := 1) hx hb hr (fun t ht hW => ⟨⟨_, _, rfl, rfl, (Or.inl ⟨c_1, rfl, by rw [ht]; exact hP9, hD9⟩)⟩, hS.F ht⟩) hS.2.2 dL_centre_16
    · have hz_4 : -2147483648 + 1 ≤ p1.toInt → (p1 - 1).toInt = p1.toInt - 1 := xsubi (by decide +kernel) (by decide)
      subst hE
      rw [ht] at hP1
      obtain ⟨hP, hD⟩ := va_join (wr := []) (w1 := []) hP hD [0, 1] [] rfl rfl (by decide) (by decide) hk1 hFc hP1 hD1
      have hP : va_P (dC, dI) vwCl [] H := hP
      have hD : va_D A [] := hD
      clear hPc hDc hFc hP1 hD1 hk1 hz1 ht hvm
      refine vx_catch (E := "java/util/NoSuchElementException") (name := "java/util/NoSuchElementException") hown [⟨0, 10, 13, 13⟩] ⟨0, 10, 17, 35⟩ [] (htab.trans rfl) (List.forall_mem_cons.mpr ⟨(Or.inr ⟨by decide, "java/lang/IllegalArgumentException", hts (.classLink RL 13 "java/lang/IllegalArgumentException") (by decide +kernel), (hG.2.2.2.2.2.2.2.2.2.2.2.2.1 ("java/util/NoSuchElementException", "java/lang/IllegalArgumentException") (List.mem_of_getElem? (i := 10) rfl))⟩), (fun _ h => absurd h List.not_mem_nil)⟩) (by decide) (by decide) (hts (.classLink RL 35 "java/util/NoSuchElementException") (by decide +kernel)) (xBad_use hG.2.2.2.1 _ (by decide +kernel)) hce hcv hcl ?_
      refine lv_astore (lv' := [(4, .ref q9), (0, .ref a1), (1, .int p1), (2, .int p2), (3, .ref a2)]) hx hb dL_centre_17 hl (by decide) rfl (fun ls hl => ?_)
      refine lv_iconst (v := 2) hx hb dL_centre_19 (by decide) ?_
      have hP9 := hP.sub (ws' := []) [] rfl
      have hD9 := hD.sub (ws' := []) [] (by decide) rfl
      exact W.iret (v := 2) hx hb hr (fun t ht hW => ⟨⟨_, _, rfl, rfl, (Or.inr (⟨c_2, rfl, by rw [ht]; exact hP9, hD9⟩))⟩, hS.F ht⟩) hS.2.2 dL_centre_20
  · exact absurd hB id
set_option maxHeartbeats 4000000 in
set_option maxRecDepth 100000 in
theorem xnX11_centreDistance (l : Launch) (hst : l.stackTraces = false) (dC : Nat → ClassId) (dI : Nat → Nat → Nat) (T : Nat → ClassId) (a1 : Nat) (a2 : Nat) (a3 : Nat) (a4 : Nat) (a5 : Nat) (a6 : Nat) (a7 : Nat) (a8 : Nat) (a9 : Nat) (a10 : Nat) (a11 : Nat) (a12 : Nat) (a13 : Nat) (a14 : Nat) (a15 : Nat) (a16 : Nat) (sz : Nat) (p1 : Int32) : vx_Met l yX11_centreDistance zsX11_centreDistance ({ frames := 7, cells := 2, slots := 12, locals := 104 } : Room) (va_Pc [.ref a1, .int p1] (fun U => xB dC dI T [(a1, .inr (16, [.ref a2, .ref a3, .ref a4, .ref a5, .ref a6, .ref a7, .ref a8, .ref a9, .ref a10, .ref a11])), (a2, .inr (10, [.ref a12, .ref a13, .ref a14, .ref a15, .ref a16, .int 0, .int 0]))] sz U)) (va_Qi (fun (r u : Int32) => r = u) (fun (u : Int32) (t : State) => False) (va_A [(a1, .inr (16, [.ref a2, .ref a3, .ref a4, .ref a5, .ref a6, .ref a7, .ref a8, .ref a9, .ref a10, .ref a11])), (a2, .inr (10, [.ref a12, .ref a13, .ref a14, .ref a15, .ref a16, .int 0, .int 0]))] sz)) (vx_X (fun _ : Unit => True) (fun (E : String) (_ : Unit) (t : State) => (((p1.toInt < 1) ∨ ((¬ (p1.toInt < 1)) ∧ (¬ (p1.toInt ≤ 4)))) ∧ E = "java/lang/IllegalArgumentException" ∧ xE dC dI [] (va_A [(a1, .inr (16, [.ref a2, .ref a3, .ref a4, .ref a5, .ref a6, .ref a7, .ref a8, .ref a9, .ref a10, .ref a11])), (a2, .inr (10, [.ref a12, .ref a13, .ref a14, .ref a15, .ref a16, .int 0, .int 0]))] sz) t) ∨ ((((¬ (p1.toInt < 1)) ∧ (p1.toInt ≤ 4)) ∧ (¬ (p1.toInt ≤ 0))) ∧ E = "java/util/NoSuchElementException" ∧ xE dC dI [] (va_A [(a1, .inr (16, [.ref a2, .ref a3, .ref a4, .ref a5, .ref a6, .ref a7, .ref a8, .ref a9, .ref a10, .ref a11])), (a2, .inr (10, [.ref a12, .ref a13, .ref a14, .ref a15, .ref a16, .int 0, .int 0]))] sz) t)) (va_A [(a1, .inr (16, [.ref a2, .ref a3, .ref a4, .ref a5, .ref a6, .ref a7, .ref a8, .ref a9, .ref a10, .ref a11])), (a2, .inr (10, [.ref a12, .ref a13, .ref a14, .ref a15, .ref a16, .int 0, .int 0]))] sz)) 2 12 (va_A [(a1, .inr (16, [.ref a2, .ref a3, .ref a4, .ref a5, .ref a6, .ref a7, .ref a8, .ref a9, .ref a10, .ref a11])), (a2, .inr (10, [.ref a12, .ref a13, .ref a14, .ref a15, .ref a16, .int 0, .int 0]))] sz) := by
  refine vx_ofW (cc := cX11_centreDistance) (maxL := 2) (ret := (some .int)) (by decide +kernel) rfl ?_
  intro p e s m args below meth c s₁ B hml hex hv
  obtain ⟨rfl, hsz, hP, hK, hD0, hG⟩ := hv
  have hx := B.exec
  have hb := B.bytes
  have hr := B.returns
  have hts := atoms_spec (ws := zsX11_centreDistance) B.pre
  have hown : s.vm.findClass RX11 = some m.cls := findClass_of_methodNamed B.named
  have hlocks := B.notSynchronized
  subst hsz
  have hD := hD0.self (sz := s.heap.size)
  generalize hAe : va_A [(a1, .inr (16, [.ref a2, .ref a3, .ref a4, .ref a5, .ref a6, .ref a7, .ref a8, .ref a9, .ref a10, .ref a11])), (a2, .inr (10, [.ref a12, .ref a13, .ref a14, .ref a15, .ref a16, .int 0, .int 0]))] s.heap.size = A at hD hG ⊢
  have hA : ∀ q : Nat, s.heap.size ≤ q → A q := fun q h => by rw [← hAe]; exact Or.inr h
  have hS : va_S A s.heap s.heap [] := va_S.rf
  have hl := lv_entry ([.ref a1, .int p1]) (n := 2) (Nat.le_of_ble_eq_true rfl)
  rw [lg_entry_eq]
  generalize (lg_sl ([.ref a1, .int p1]) ++ List.replicate (2 - (lg_sl ([.ref a1, .int p1])).length) Slot.unset).toArray = ls at hl ⊢
  have hl : lv_has ls 2 [(0, .ref a1), (1, .int p1)] := hl
  refine lv_iload_n hx hb dX11_centreDistance_0 rfl (lv_at hl 1 rfl) ?_
  refine lv_iconst (v := 1) hx hb dX11_centreDistance_1 (by decide) ?_
  refine lv_iconst (v := 4) hx hb dX11_centreDistance_2 (by decide) ?_
  have hPc := hP.sub (ws' := []) [] rfl
  have hDc := hD.sub (ws' := []) [] (by decide) rfl
  have hFc := va_free (wc := []) hD hS hA [] rfl
  refine vx_callv (vx_runS (As := [.int p1, .int 1, .int 4]) (rest := []) ⟨hx, hb, hml, hown, hts⟩ (xcX11_needRange_v2 l hst dC dI T s.heap.size p1) (cwS 3 hts ygX11_centreDistance_X11_needRange rfl rfl rfl (by decide +kernel) ⟨Nat.le_of_ble_eq_true rfl, Nat.le_of_ble_eq_true rfl⟩) ⟨xBlind, xCall hK hG hS hPc hDc hFc⟩ rfl rfl hl.1 rfl (lv_room (Nat.le_of_ble_eq_true rfl)) dX11_centreDistance_3 ⟨Nat.le_of_ble_eq_true rfl, Nat.le_of_ble_eq_true rfl⟩) hS (fun q _ h => hFc q h) hFc (fun q _ h => hFc q h) (fun E ce q9 u t H locs ht hvm hw hB hz1 hk1 hS hce hcv hcl => ?_) (fun u t H locs ht hvm hw hB hz1 hk1 hS => ?_)
  · rcases hB with ⟨c_1, hE, hP1, hD1⟩
    subst hE
    rw [ht] at hP1
    obtain ⟨hP, hD⟩ := va_join (wr := [(a1, .inr (16, [.ref a2, .ref a3, .ref a4, .ref a5, .ref a6, .ref a7, .ref a8, .ref a9, .ref a10, .ref a11])), (a2, .inr (10, [.ref a12, .ref a13, .ref a14, .ref a15, .ref a16, .int 0, .int 0]))]) (w1 := []) hP hD [] [0, 1] rfl rfl (by decide) (by decide) hk1 hFc hP1 hD1
    have hP : va_P (dC, dI) vwCl [(a1, .inr (16, [.ref a2, .ref a3, .ref a4, .ref a5, .ref a6, .ref a7, .ref a8, .ref a9, .ref a10, .ref a11])), (a2, .inr (10, [.ref a12, .ref a13, .ref a14, .ref a15, .ref a16, .int 0, .int 0]))] H := hP
    have hD : va_D A [(a1, .inr (16, [.ref a2, .ref a3, .ref a4, .ref a5, .ref a6, .ref a7, .ref a8, .ref a9, .ref a10, .ref a11])), (a2, .inr (10, [.ref a12, .ref a13, .ref a14, .ref a15, .ref a16, .int 0, .int 0]))] := hD
    clear hPc hDc hFc hP1 hD1 hk1 hz1 ht hvm
    have hP9 := hP.sub (ws' := []) [] rfl
    have hD9 := hD.sub (ws' := []) [] (by decide) rfl
    exact vx_out (fun x hx => absurd (hex x hx) id) hlocks hce hcv hcl (fun t ht _ => ⟨(), trivial, (Or.inl ⟨c_1, rfl, by rw [ht]; exact hP9, hD9⟩), hS.F ht⟩) hS.2.2 (Nat.le_of_ble_eq_true rfl) (Nat.le_of_ble_eq_true rfl)
  · rcases hB with ⟨c_2, hP1, hD1⟩
    rw [ht] at hP1
    obtain ⟨hP, hD⟩ := va_join (wr := [(a1, .inr (16, [.ref a2, .ref a3, .ref a4, .ref a5, .ref a6, .ref a7, .ref a8, .ref a9, .ref a10, .ref a11])), (a2, .inr (10, [.ref a12, .ref a13, .ref a14, .ref a15, .ref a16, .int 0, .int 0]))]) (w1 := []) hP hD [] [0, 1] rfl rfl (by decide) (by decide) hk1 hFc hP1 hD1
    have hP : va_P (dC, dI) vwCl [(a1, .inr (16, [.ref a2, .ref a3, .ref a4, .ref a5, .ref a6, .ref a7, .ref a8, .ref a9, .ref a10, .ref a11])), (a2, .inr (10, [.ref a12, .ref a13, .ref a14, .ref a15, .ref a16, .int 0, .int 0]))] H := hP
    have hD : va_D A [(a1, .inr (16, [.ref a2, .ref a3, .ref a4, .ref a5, .ref a6, .ref a7, .ref a8, .ref a9, .ref a10, .ref a11])), (a2, .inr (10, [.ref a12, .ref a13, .ref a14, .ref a15, .ref a16, .int 0, .int 0]))] := hD
    clear hPc hDc hFc hP1 hD1 hk1 hz1 ht hvm
    refine lv_aload_n hx hb dX11_centreDistance_6 rfl (lv_at hl 0 rfl) ?_
    refine lv_iload_n hx hb dX11_centreDistance_7 rfl (lv_at hl 1 rfl) ?_
    have hPc := hP.sub (ws' := [(a1, .inr (16, [.ref a2, .ref a3, .ref a4, .ref a5, .ref a6, .ref a7, .ref a8, .ref a9, .ref a10, .ref a11])), (a2, .inr (10, [.ref a12, .ref a13, .ref a14, .ref a15, .ref a16, .int 0, .int 0]))]) [0, 1] rfl
    have hDc := hD.sub (ws' := [(a1, .inr (16, [.ref a2, .ref a3, .ref a4, .ref a5, .ref a6, .ref a7, .ref a8, .ref a9, .ref a10, .ref a11])), (a2, .inr (10, [.ref a12, .ref a13, .ref a14, .ref a15, .ref a16, .int 0, .int 0]))]) [0, 1] (by decide) rfl
    have hFc := va_free (wc := [(a1, .inr (16, [.ref a2, .ref a3, .ref a4, .ref a5, .ref a6, .ref a7, .ref a8, .ref a9, .ref a10, .ref a11])), (a2, .inr (10, [.ref a12, .ref a13, .ref a14, .ref a15, .ref a16, .int 0, .int 0]))]) hD hS hA [0, 1] rfl
    refine vx_callv (vx_runV (As := [.int p1]) (rest := []) ⟨hx, hb, hml, hown, hts⟩ (xnX11_needSoMany l hst dC dI T a1 a2 a3 a4 a5 a6 a7 a8 a9 a10 a11 a12 a13 a14 a15 a16 H.size p1) (cwV 1 hts ygX11_centreDistance_X11_needSoMany rfl rfl rfl (by decide +kernel) ⟨Nat.le_of_ble_eq_true rfl, Nat.le_of_ble_eq_true rfl⟩) ⟨xBlind, va_recv hK hPc (ci := 16) (q0 := 0) rfl rfl, xCall hK hG hS hPc hDc hFc⟩ rfl rfl hl.1 rfl (lv_room (Nat.le_of_ble_eq_true rfl)) dX11_centreDistance_8 ⟨Nat.le_of_ble_eq_true rfl, Nat.le_of_ble_eq_true rfl⟩) hS (fun q _ h => hFc q h) hFc (fun q _ h => hFc q h) (fun E ce q9 u t H locs ht hvm hw hB hz1 hk1 hS hce hcv hcl => ?_) (fun u t H locs ht hvm hw hB hz1 hk1 hS => ?_)
    · rcases hB with ⟨c_3, hE, hP1, hD1⟩
      subst hE
      rw [ht] at hP1
      obtain ⟨hP, hD⟩ := va_join (wr := []) (w1 := [(a1, .inr (16, [.ref a2, .ref a3, .ref a4, .ref a5, .ref a6, .ref a7, .ref a8, .ref a9, .ref a10, .ref a11])), (a2, .inr (10, [.ref a12, .ref a13, .ref a14, .ref a15, .ref a16, .int 0, .int 0]))]) hP hD [0, 1] [] rfl rfl (by decide) (by decide) hk1 hFc hP1 hD1
      have hP : va_P (dC, dI) vwCl [(a1, .inr (16, [.ref a2, .ref a3, .ref a4, .ref a5, .ref a6, .ref a7, .ref a8, .ref a9, .ref a10, .ref a11])), (a2, .inr (10, [.ref a12, .ref a13, .ref a14, .ref a15, .ref a16, .int 0, .int 0]))] H := hP
      have hD : va_D A [(a1, .inr (16, [.ref a2, .ref a3, .ref a4, .ref a5, .ref a6, .ref a7, .ref a8, .ref a9, .ref a10, .ref a11])), (a2, .inr (10, [.ref a12, .ref a13, .ref a14, .ref a15, .ref a16, .int 0, .int 0]))] := hD
      clear hPc hDc hFc hP1 hD1 hk1 hz1 ht hvm
      have hP9 := hP.sub (ws' := []) [] rfl
      have hD9 := hD.sub (ws' := []) [] (by decide) rfl
      exact vx_out (fun x hx => absurd (hex x hx) id) hlocks hce hcv hcl (fun t ht _ => ⟨(), trivial, (Or.inr (⟨⟨c_2, c_3⟩, rfl, by rw [ht]; exact hP9, hD9⟩)), hS.F ht⟩) hS.2.2 (Nat.le_of_ble_eq_true rfl) (Nat.le_of_ble_eq_true rfl)
    · rcases hB with ⟨c_4, hP1, hD1⟩
      exact absurd c_4 (by omega)
set_option maxHeartbeats 4000000 in
set_option maxRecDepth 100000 in
theorem xnL_centreDistance (l : Launch) (hst : l.stackTraces = false) (dC : Nat → ClassId) (dI : Nat → Nat → Nat) (T : Nat → ClassId) (a1 : Nat) (a2 : Nat) (a3 : Nat) (a4 : Nat) (a5 : Nat) (a6 : Nat) (a7 : Nat) (a8 : Nat) (a9 : Nat) (a10 : Nat) (a11 : Nat) (a12 : Nat) (a13 : Nat) (a14 : Nat) (a15 : Nat) (a16 : Nat) (a17 : Nat) (sz : Nat) (p1 : Int32) : Met l yL_centreDistance zsL_centreDistance ({ frames := 8, cells := 2, slots := 12, locals := 125 } : Room) (va_Pc [.ref a1, .int p1, .ref a2] (fun U => xB dC dI T [(a1, .inr (16, [.ref a3, .ref a4, .ref a5, .ref a6, .ref a7, .ref a8, .ref a9, .ref a10, .ref a11, .ref a12])), (a3, .inr (10, [.ref a13, .ref a14, .ref a15, .ref a16, .ref a17, .int 0, .int 0]))] sz U)) (va_Qi (fun (r u : Int32) => r = u) (fun (u : Int32) (t : State) => (((p1.toInt < 1) ∨ ((¬ (p1.toInt < 1)) ∧ (¬ (p1.toInt ≤ 4)))) ∧ 1 = u ∧ xE dC dI [] (va_A [(a1, .inr (16, [.ref a3, .ref a4, .ref a5, .ref a6, .ref a7, .ref a8, .ref a9, .ref a10, .ref a11, .ref a12])), (a3, .inr (10, [.ref a13, .ref a14, .ref a15, .ref a16, .ref a17, .int 0, .int 0]))] sz) t) ∨ ((((¬ (p1.toInt < 1)) ∧ (p1.toInt ≤ 4)) ∧ (¬ (p1.toInt ≤ 0))) ∧ 2 = u ∧ xE dC dI [] (va_A [(a1, .inr (16, [.ref a3, .ref a4, .ref a5, .ref a6, .ref a7, .ref a8, .ref a9, .ref a10, .ref a11, .ref a12])), (a3, .inr (10, [.ref a13, .ref a14, .ref a15, .ref a16, .ref a17, .int 0, .int 0]))] sz) t)) (va_A [(a1, .inr (16, [.ref a3, .ref a4, .ref a5, .ref a6, .ref a7, .ref a8, .ref a9, .ref a10, .ref a11, .ref a12])), (a3, .inr (10, [.ref a13, .ref a14, .ref a15, .ref a16, .ref a17, .int 0, .int 0]))] sz)) 2 12 (va_A [(a1, .inr (16, [.ref a3, .ref a4, .ref a5, .ref a6, .ref a7, .ref a8, .ref a9, .ref a10, .ref a11, .ref a12])), (a3, .inr (10, [.ref a13, .ref a14, .ref a15, .ref a16, .ref a17, .int 0, .int 0]))] sz) := by
  refine va_MetW (cc := cL_centreDistance) (maxL := 4) (ret := (some .int)) (hh := [(0, 9, 12, 13), (0, 9, 15, 35)]) (by decide +kernel) rfl ?_
  intro p e s m args below meth c s₁ B hml hv
  obtain ⟨rfl, hsz, hP, hK, hD0, hG⟩ := hv
  have hx := B.exec
  have hb := B.bytes
  have hr := B.returns
  have hts := atoms_spec (ws := zsL_centreDistance) B.pre
  have hown : s.vm.findClass RL = some m.cls := findClass_of_methodNamed B.named
  have hlocks := B.notSynchronized
  have htab := vx_table (x := yL_centreDistance) B (hts (.codeWith yL_centreDistance cL_centreDistance 4 (some .int) [(0, 9, 12, 13), (0, 9, 15, 35)]) (by decide +kernel))
  subst hsz
  have hD := hD0.self (sz := s.heap.size)
  generalize hAe : va_A [(a1, .inr (16, [.ref a3, .ref a4, .ref a5, .ref a6, .ref a7, .ref a8, .ref a9, .ref a10, .ref a11, .ref a12])), (a3, .inr (10, [.ref a13, .ref a14, .ref a15, .ref a16, .ref a17, .int 0, .int 0]))] s.heap.size = A at hD hG ⊢
  have hA : ∀ q : Nat, s.heap.size ≤ q → A q := fun q h => by rw [← hAe]; exact Or.inr h
  have hS : va_S A s.heap s.heap [] := va_S.rf
  have hl := lv_entry ([.ref a1, .int p1, .ref a2]) (n := 4) (Nat.le_of_ble_eq_true rfl)
  rw [lg_entry_eq]
  generalize (lg_sl ([.ref a1, .int p1, .ref a2]) ++ List.replicate (4 - (lg_sl ([.ref a1, .int p1, .ref a2])).length) Slot.unset).toArray = ls at hl ⊢
  have hl : lv_has ls 4 [(0, .ref a1), (1, .int p1), (2, .ref a2)] := hl
  refine lv_aload_n hx hb dL_centreDistance_0 rfl (lv_at hl 2 rfl) ?_
  refine lv_iconst (v := 0) hx hb dL_centreDistance_1 (by decide) ?_
  refine lv_aload_n hx hb dL_centreDistance_2 rfl (lv_at hl 0 rfl) ?_
  refine lv_iload_n hx hb dL_centreDistance_3 rfl (lv_at hl 1 rfl) ?_
  have hPc := hP.sub (ws' := [(a1, .inr (16, [.ref a3, .ref a4, .ref a5, .ref a6, .ref a7, .ref a8, .ref a9, .ref a10, .ref a11, .ref a12])), (a3, .inr (10, [.ref a13, .ref a14, .ref a15, .ref a16, .ref a17, .int 0, .int 0]))]) [0, 1] rfl
  have hDc := hD.sub (ws' := [(a1, .inr (16, [.ref a3, .ref a4, .ref a5, .ref a6, .ref a7, .ref a8, .ref a9, .ref a10, .ref a11, .ref a12])), (a3, .inr (10, [.ref a13, .ref a14, .ref a15, .ref a16, .ref a17, .int 0, .int 0]))]) [0, 1] (by decide) rfl
  have hFc := va_free (wc := [(a1, .inr (16, [.ref a3, .ref a4, .ref a5, .ref a6, .ref a7, .ref a8, .ref a9, .ref a10, .ref a11, .ref a12])), (a3, .inr (10, [.ref a13, .ref a14, .ref a15, .ref a16, .ref a17, .int 0, .int 0]))]) hD hS hA [0, 1] rfl
  refine vx_calli (vx_runV (As := [.int p1]) (rest := [.int 0, .ref a2]) ⟨hx, hb, hml, hown, hts⟩ (xnX11_centreDistance l hst dC dI T a1 a3 a4 a5 a6 a7 a8 a9 a10 a11 a12 a13 a14 a15 a16 a17 s.heap.size p1) (cwV 1 hts ygL_centreDistance_X11_centreDistance rfl rfl rfl (by decide +kernel) ⟨Nat.le_of_ble_eq_true rfl, Nat.le_of_ble_eq_true rfl⟩) ⟨xBlind, va_recv hK hPc (ci := 16) (q0 := 0) rfl rfl, xCall hK hG hS hPc hDc hFc⟩ rfl rfl hl.1 rfl (lv_room (Nat.le_of_ble_eq_true rfl)) dL_centreDistance_4 ⟨Nat.le_of_ble_eq_true rfl, Nat.le_of_ble_eq_true rfl⟩) hS (fun q _ h => hFc q h) hFc (fun q _ h => hFc q h) (fun E ce q9 u t H locs ht hvm hw hB hz1 hk1 hS hce hcv hcl => ?_) (fun r_9 u t H locs ht hvm hw hB hz1 hk1 hS => ?_)
  · rcases hB with ⟨c_1, hE, hP1, hD1⟩ | ⟨c_2, hE, hP1, hD1⟩
    · subst hE
      rw [ht] at hP1
      obtain ⟨hP, hD⟩ := va_join (wr := []) (w1 := []) hP hD [0, 1] [] rfl rfl (by decide) (by decide) hk1 hFc hP1 hD1
      have hP : va_P (dC, dI) vwCl [] H := hP
      have hD : va_D A [] := hD
      clear hPc hDc hFc hP1 hD1 hk1 hz1 ht hvm
      refine vx_catch (E := "java/lang/IllegalArgumentException") (name := "java/lang/IllegalArgumentException") hown [] ⟨0, 9, 12, 13⟩ [⟨0, 9, 15, 35⟩] (htab.trans rfl) (fun _ h => absurd h List.not_mem_nil) (by decide) (by decide) (hts (.classLink RL 13 "java/lang/IllegalArgumentException") (by decide +kernel)) (xBad_use hG.2.2.2.1 _ (by decide +kernel)) hce hcv hcl ?_
      refine lv_astore_n (lv' := [(3, .ref q9), (0, .ref a1), (1, .int p1), (2, .ref a2)]) hx hb dL_centreDistance_12 rfl hl (by decide) rfl (fun ls hl => ?_)
      refine lv_iconst (v := 1) hx hb dL_centreDistance_13 (by decide) ?_
      have hP9 := hP.sub (ws' := []) [] rfl
      have hD9 := hD.sub (ws' := []) [] (by decide) rfl
      exact W.iret (v := 1) hx hb hr (fun t ht hW => ⟨⟨_, _, rfl, rfl, (Or.inl ⟨c_1, rfl, by rw [ht]; exact hP9, hD9⟩)⟩, hS.F ht⟩) hS.2.2 dL_centreDistance_14
    · subst hE
      rw [ht] at hP1
      obtain ⟨hP, hD⟩ := va_join (wr := []) (w1 := []) hP hD [0, 1] [] rfl rfl (by decide) (by decide) hk1 hFc hP1 hD1
      have hP : va_P (dC, dI) vwCl [] H := hP
      have hD : va_D A [] := hD
      clear hPc hDc hFc hP1 hD1 hk1 hz1 ht hvm
      refine vx_catch (E := "java/util/NoSuchElementException") (name := "java/util/NoSuchElementException") hown [⟨0, 9, 12, 13⟩] ⟨0, 9, 15, 35⟩ [] (htab.trans rfl) (List.forall_mem_cons.mpr ⟨(Or.inr ⟨by decide, "java/lang/IllegalArgumentException", hts (.classLink RL 13 "java/lang/IllegalArgumentException") (by decide +kernel), (hG.2.2.2.2.2.2.2.2.2.2.2.2.1 ("java/util/NoSuchElementException", "java/lang/IllegalArgumentException") (List.mem_of_getElem? (i := 10) rfl))⟩), (fun _ h => absurd h List.not_mem_nil)⟩) (by decide) (by decide) (hts (.classLink RL 35 "java/util/NoSuchElementException") (by decide +kernel)) (xBad_use hG.2.2.2.1 _ (by decide +kernel)) hce hcv hcl ?_
      refine lv_astore_n (lv' := [(3, .ref q9), (0, .ref a1), (1, .int p1), (2, .ref a2)]) hx hb dL_centreDistance_15 rfl hl (by decide) rfl (fun ls hl => ?_)
      refine lv_iconst (v := 2) hx hb dL_centreDistance_16 (by decide) ?_
      have hP9 := hP.sub (ws' := []) [] rfl
      have hD9 := hD.sub (ws' := []) [] (by decide) rfl
      exact W.iret (v := 2) hx hb hr (fun t ht hW => ⟨⟨_, _, rfl, rfl, (Or.inr (⟨c_2, rfl, by rw [ht]; exact hP9, hD9⟩))⟩, hS.F ht⟩) hS.2.2 dL_centreDistance_17
  · exact absurd hB id
set_option maxHeartbeats 4000000 in
set_option maxRecDepth 100000 in
theorem xnX11_dropWall (l : Launch) (hst : l.stackTraces = false) (dC : Nat → ClassId) (dI : Nat → Nat → Nat) (T : Nat → ClassId) (a1 : Nat) (a2 : Nat) (a3 : Nat) (a4 : Nat) (a5 : Nat) (a6 : Nat) (a7 : Nat) (a8 : Nat) (a9 : Nat) (a10 : Nat) (a11 : Nat) (a26 : Nat) (a27 : Nat) (a28 : Nat) (a29 : Nat) (sz : Nat) : vx_Met l yX11_dropWall zsX11_dropWall ({ frames := 6, cells := 1, slots := 6, locals := 82 } : Room) (va_Pc [.ref a1] (fun U => xB dC dI T [(a1, .inr (16, [.ref a2, .ref a3, .ref a4, .ref a5, .ref a6, .ref a7, .ref a8, .ref a9, .ref a10, .ref a11])), (a8, .inr (15, [.ref a26, .ref a27, .ref a28, .ref a29, .int 0]))] sz U)) (va_Qi (fun (r u : Int32) => r = u) (fun (u : Int32) (t : State) => False) (va_A [(a1, .inr (16, [.ref a2, .ref a3, .ref a4, .ref a5, .ref a6, .ref a7, .ref a8, .ref a9, .ref a10, .ref a11])), (a8, .inr (15, [.ref a26, .ref a27, .ref a28, .ref a29, .int 0]))] sz)) (vx_X (fun _ : Unit => True) (fun (E : String) (_ : Unit) (t : State) => E = "java/util/NoSuchElementException" ∧ xE dC dI [] (va_A [(a1, .inr (16, [.ref a2, .ref a3, .ref a4, .ref a5, .ref a6, .ref a7, .ref a8, .ref a9, .ref a10, .ref a11])), (a8, .inr (15, [.ref a26, .ref a27, .ref a28, .ref a29, .int 0]))] sz) t) (va_A [(a1, .inr (16, [.ref a2, .ref a3, .ref a4, .ref a5, .ref a6, .ref a7, .ref a8, .ref a9, .ref a10, .ref a11])), (a8, .inr (15, [.ref a26, .ref a27, .ref a28, .ref a29, .int 0]))] sz)) 1 6 (va_A [(a1, .inr (16, [.ref a2, .ref a3, .ref a4, .ref a5, .ref a6, .ref a7, .ref a8, .ref a9, .ref a10, .ref a11])), (a8, .inr (15, [.ref a26, .ref a27, .ref a28, .ref a29, .int 0]))] sz) := by
  refine vx_ofW (cc := cX11_dropWall) (maxL := 1) (ret := (some .int)) (by decide +kernel) rfl ?_
  intro p e s m args below meth c s₁ B hml hex hv
  obtain ⟨rfl, hsz, hP, hK, hD0, hG⟩ := hv
  have hx := B.exec
  have hb := B.bytes
  have hr := B.returns
  have hts := atoms_spec (ws := zsX11_dropWall) B.pre
  have hown : s.vm.findClass RX11 = some m.cls := findClass_of_methodNamed B.named
  have hlocks := B.notSynchronized
  have hin_X10 : ∀ w ∈ wsX100, w ∈ zsX11_dropWall := by decide +kernel
  have hin_X11 : ∀ w ∈ wsX110, w ∈ zsX11_dropWall := by decide +kernel
  have hm_140 : ∀ w ∈ (yAt RX11 140).filter goodWord, w ∈ zsX11_dropWall := by decide +kernel
  have hat_140 : ∀ w ∈ yAt RX11 140, w.before (#[.ref a1] : Array Value) s = true := vx_hat (B := xBad) (fun w hw => hts w (hm_140 w hw)) (by decide +kernel) (xBad_use hG.2.2.2.1)
  subst hsz
  have hD := hD0.self (sz := s.heap.size)
  generalize hAe : va_A [(a1, .inr (16, [.ref a2, .ref a3, .ref a4, .ref a5, .ref a6, .ref a7, .ref a8, .ref a9, .ref a10, .ref a11])), (a8, .inr (15, [.ref a26, .ref a27, .ref a28, .ref a29, .int 0]))] s.heap.size = A at hD hG ⊢
  have hA : ∀ q : Nat, s.heap.size ≤ q → A q := fun q h => by rw [← hAe]; exact Or.inr h
  have hS : va_S A s.heap s.heap [] := va_S.rf
  have hl := lv_entry ([.ref a1]) (n := 1) (Nat.le_of_ble_eq_true rfl)
  rw [lg_entry_eq]
  generalize (lg_sl ([.ref a1]) ++ List.replicate (1 - (lg_sl ([.ref a1])).length) Slot.unset).toArray = ls at hl ⊢
  have hl : lv_has ls 1 [(0, .ref a1)] := hl
  refine lv_aload_n hx hb dX11_dropWall_0 rfl (lv_at hl 0 rfl) ?_
  refine va_get (D := (dC, dI)) (ci := 16) (v := .ref a8) (C := RX11) (T := TX11) (N := 10) hx hb hts hin_X11 hown hK hP 0 rfl rfl 6 (by decide) (hts (.fieldLink RX11 54 "Nearestward" "walls" "LNearestward$Walls;") (by decide +kernel)) (fun _ h9 => h9) rfl dX11_dropWall_1 ?_
  refine va_get (D := (dC, dI)) (ci := 15) (v := .int 0) (C := RX10) (T := TX10) (N := 5) hx hb hts hin_X10 hown hK hP 1 rfl rfl 4 (by decide) (hts (.fieldLink RX11 272 "Nearestward$Walls" "count" "I") (by decide +kernel)) (fun _ h9 => h9) rfl dX11_dropWall_4 ?_
  refine lv_if_ne (tgt := 21) hx hb dX11_dropWall_7 (by decide) (fun c_1 => absurd c_1 (by decide)) (fun c_1 => ?_)
  obtain ⟨sa, hsa⟩ := hG.2.2.2.2.1 (RX11, 279, "there is no wall") (by decide +kernel)
  have hP9 := hP.sub (ws' := []) [] rfl
  have hD9 := hD.sub (ws' := []) [] (by decide) rfl
  exact yThrow (text := "there is no wall") (ic := 140) hx hb hst hown (hts (.classLink RX11 136 "java/util/NoSuchElementException") (by decide +kernel)) (hts (.initialized "java/util/NoSuchElementException") (by decide +kernel)) hsa hat_140 (by decide +kernel) hG.1 hG.2.1 hS (by rw [hml]; exact hl.1) 3 dX11_dropWall_10 dX11_dropWall_13 (Or.inr ⟨rfl, dX11_dropWall_14⟩) dX11_dropWall_17 dX11_dropWall_20 (fun x hx => absurd (hex x hx) id) (Nat.le_of_ble_eq_true rfl) (Nat.le_of_ble_eq_true rfl) (Nat.le_of_ble_eq_true rfl) (Nat.le_of_ble_eq_true rfl) hlocks (fun t hvm hz1 hk1 => ⟨(), trivial, ⟨rfl, hP9.kept (fun k x hx => hk1 x.1 ((hP9 k x hx).lt)), hD9⟩, xthrF hS hz1 hk1⟩) hS.2.2 (Nat.le_of_ble_eq_true rfl) (Nat.le_of_ble_eq_true rfl)
set_option maxHeartbeats 4000000 in
set_option maxRecDepth 100000 in
theorem xnL_dropWall (l : Launch) (hst : l.stackTraces = false) (dC : Nat → ClassId) (dI : Nat → Nat → Nat) (T : Nat → ClassId) (a1 : Nat) (a2 : Nat) (a3 : Nat) (a4 : Nat) (a5 : Nat) (a6 : Nat) (a7 : Nat) (a8 : Nat) (a9 : Nat) (a10 : Nat) (a11 : Nat) (a12 : Nat) (a27 : Nat) (a28 : Nat) (a29 : Nat) (a30 : Nat) (sz : Nat) : Met l yL_dropWall zsL_dropWall ({ frames := 7, cells := 1, slots := 6, locals := 102 } : Room) (va_Pc [.ref a1, .ref a2] (fun U => xB dC dI T [(a1, .inr (16, [.ref a3, .ref a4, .ref a5, .ref a6, .ref a7, .ref a8, .ref a9, .ref a10, .ref a11, .ref a12])), (a9, .inr (15, [.ref a27, .ref a28, .ref a29, .ref a30, .int 0]))] sz U)) (va_Qi (fun (r u : Int32) => r = u) (fun (u : Int32) (t : State) => 1 = u ∧ xE dC dI [] (va_A [(a1, .inr (16, [.ref a3, .ref a4, .ref a5, .ref a6, .ref a7, .ref a8, .ref a9, .ref a10, .ref a11, .ref a12])), (a9, .inr (15, [.ref a27, .ref a28, .ref a29, .ref a30, .int 0]))] sz) t) (va_A [(a1, .inr (16, [.ref a3, .ref a4, .ref a5, .ref a6, .ref a7, .ref a8, .ref a9, .ref a10, .ref a11, .ref a12])), (a9, .inr (15, [.ref a27, .ref a28, .ref a29, .ref a30, .int 0]))] sz)) 1 6 (va_A [(a1, .inr (16, [.ref a3, .ref a4, .ref a5, .ref a6, .ref a7, .ref a8, .ref a9, .ref a10, .ref a11, .ref a12])), (a9, .inr (15, [.ref a27, .ref a28, .ref a29, .ref a30, .int 0]))] sz) := by
  refine va_MetW (cc := cL_dropWall) (maxL := 3) (ret := (some .int)) (hh := [(0, 8, 11, 35)]) (by decide +kernel) rfl ?_
  intro p e s m args below meth c s₁ B hml hv
  obtain ⟨rfl, hsz, hP, hK, hD0, hG⟩ := hv
  have hx := B.exec
  have hb := B.bytes
  have hr := B.returns
  have hts := atoms_spec (ws := zsL_dropWall) B.pre
  have hown : s.vm.findClass RL = some m.cls := findClass_of_methodNamed B.named
  have hlocks := B.notSynchronized
  have htab := vx_table (x := yL_dropWall) B (hts (.codeWith yL_dropWall cL_dropWall 3 (some .int) [(0, 8, 11, 35)]) (by decide +kernel))
  subst hsz
  have hD := hD0.self (sz := s.heap.size)
  generalize hAe : va_A [(a1, .inr (16, [.ref a3, .ref a4, .ref a5, .ref a6, .ref a7, .ref a8, .ref a9, .ref a10, .ref a11, .ref a12])), (a9, .inr (15, [.ref a27, .ref a28, .ref a29, .ref a30, .int 0]))] s.heap.size = A at hD hG ⊢
  have hA : ∀ q : Nat, s.heap.size ≤ q → A q := fun q h => by rw [← hAe]; exact Or.inr h
  have hS : va_S A s.heap s.heap [] := va_S.rf
  have hl := lv_entry ([.ref a1, .ref a2]) (n := 3) (Nat.le_of_ble_eq_true rfl)
  rw [lg_entry_eq]
  generalize (lg_sl ([.ref a1, .ref a2]) ++ List.replicate (3 - (lg_sl ([.ref a1, .ref a2])).length) Slot.unset).toArray = ls at hl ⊢
  have hl : lv_has ls 3 [(0, .ref a1), (1, .ref a2)] := hl
  refine lv_aload_n hx hb dL_dropWall_0 rfl (lv_at hl 1 rfl) ?_
  refine lv_iconst (v := 0) hx hb dL_dropWall_1 (by decide) ?_
  refine lv_aload_n hx hb dL_dropWall_2 rfl (lv_at hl 0 rfl) ?_
  have hPc := hP.sub (ws' := [(a1, .inr (16, [.ref a3, .ref a4, .ref a5, .ref a6, .ref a7, .ref a8, .ref a9, .ref a10, .ref a11, .ref a12])), (a9, .inr (15, [.ref a27, .ref a28, .ref a29, .ref a30, .int 0]))]) [0, 1] rfl
  have hDc := hD.sub (ws' := [(a1, .inr (16, [.ref a3, .ref a4, .ref a5, .ref a6, .ref a7, .ref a8, .ref a9, .ref a10, .ref a11, .ref a12])), (a9, .inr (15, [.ref a27, .ref a28, .ref a29, .ref a30, .int 0]))]) [0, 1] (by decide) rfl
  have hFc := va_free (wc := [(a1, .inr (16, [.ref a3, .ref a4, .ref a5, .ref a6, .ref a7, .ref a8, .ref a9, .ref a10, .ref a11, .ref a12])), (a9, .inr (15, [.ref a27, .ref a28, .ref a29, .ref a30, .int 0]))]) hD hS hA [0, 1] rfl
  refine vx_calli (vx_runV (As := []) (rest := [.int 0, .ref a2]) ⟨hx, hb, hml, hown, hts⟩ (xnX11_dropWall l hst dC dI T a1 a3 a4 a5 a6 a7 a8 a9 a10 a11 a12 a27 a28 a29 a30 s.heap.size) (cwV 0 hts ygL_dropWall_X11_dropWall rfl rfl rfl (by decide +kernel) ⟨Nat.le_of_ble_eq_true rfl, Nat.le_of_ble_eq_true rfl⟩) ⟨xBlind, va_recv hK hPc (ci := 16) (q0 := 0) rfl rfl, xCall hK hG hS hPc hDc hFc⟩ rfl rfl hl.1 rfl (lv_room (Nat.le_of_ble_eq_true rfl)) dL_dropWall_3 ⟨Nat.le_of_ble_eq_true rfl, Nat.le_of_ble_eq_true rfl⟩) hS (fun q _ h => hFc q h) hFc (fun q _ h => hFc q h) (fun E ce q9 u t H locs ht hvm hw hB hz1 hk1 hS hce hcv hcl => ?_) (fun r_9 u t H locs ht hvm hw hB hz1 hk1 hS => ?_)
  · rcases hB with ⟨hE, hP1, hD1⟩
    subst hE
    rw [ht] at hP1
    obtain ⟨hP, hD⟩ := va_join (wr := []) (w1 := []) hP hD [0, 1] [] rfl rfl (by decide) (by decide) hk1 hFc hP1 hD1
    have hP : va_P (dC, dI) vwCl [] H := hP
    have hD : va_D A [] := hD
    clear hPc hDc hFc hP1 hD1 hk1 hz1 ht hvm
    refine vx_catch (E := "java/util/NoSuchElementException") (name := "java/util/NoSuchElementException") hown [] ⟨0, 8, 11, 35⟩ [] (htab.trans rfl) (fun _ h => absurd h List.not_mem_nil) (by decide) (by decide) (hts (.classLink RL 35 "java/util/NoSuchElementException") (by decide +kernel)) (xBad_use hG.2.2.2.1 _ (by decide +kernel)) hce hcv hcl ?_
    refine lv_astore_n (lv' := [(2, .ref q9), (0, .ref a1), (1, .ref a2)]) hx hb dL_dropWall_11 rfl hl (by decide) rfl (fun ls hl => ?_)
    refine lv_iconst (v := 1) hx hb dL_dropWall_12 (by decide) ?_
    have hP9 := hP.sub (ws' := []) [] rfl
    have hD9 := hD.sub (ws' := []) [] (by decide) rfl
    exact W.iret (v := 1) hx hb hr (fun t ht hW => ⟨⟨_, _, rfl, rfl, ⟨rfl, by rw [ht]; exact hP9, hD9⟩⟩, hS.F ht⟩) hS.2.2 dL_dropWall_13
  · exact absurd hB id
set_option maxHeartbeats 4000000 in
set_option maxRecDepth 100000 in
theorem xnX11_needSomePoint (l : Launch) (hst : l.stackTraces = false) (dC : Nat → ClassId) (dI : Nat → Nat → Nat) (T : Nat → ClassId) (a1 : Nat) (a2 : Nat) (a3 : Nat) (a4 : Nat) (a5 : Nat) (a6 : Nat) (a7 : Nat) (a8 : Nat) (a9 : Nat) (a10 : Nat) (a11 : Nat) (a12 : Nat) (a13 : Nat) (a14 : Nat) (a15 : Nat) (a16 : Nat) (sz : Nat) : vx_Met l yX11_needSomePoint zsX11_needSomePoint ({ frames := 6, cells := 1, slots := 6, locals := 82 } : Room) (va_Pc [.ref a1] (fun U => xB dC dI T [(a1, .inr (16, [.ref a2, .ref a3, .ref a4, .ref a5, .ref a6, .ref a7, .ref a8, .ref a9, .ref a10, .ref a11])), (a2, .inr (10, [.ref a12, .ref a13, .ref a14, .ref a15, .ref a16, .int 0, .int 0]))] sz U)) (va_Qv (fun _ : Unit => True) (fun (_ : Unit) (t : State) => False) (va_A [(a1, .inr (16, [.ref a2, .ref a3, .ref a4, .ref a5, .ref a6, .ref a7, .ref a8, .ref a9, .ref a10, .ref a11])), (a2, .inr (10, [.ref a12, .ref a13, .ref a14, .ref a15, .ref a16, .int 0, .int 0]))] sz)) (vx_X (fun _ : Unit => True) (fun (E : String) (_ : Unit) (t : State) => E = "java/util/NoSuchElementException" ∧ xE dC dI [(a1, .inr (16, [.ref a2, .ref a3, .ref a4, .ref a5, .ref a6, .ref a7, .ref a8, .ref a9, .ref a10, .ref a11])), (a2, .inr (10, [.ref a12, .ref a13, .ref a14, .ref a15, .ref a16, .int 0, .int 0]))] (va_A [(a1, .inr (16, [.ref a2, .ref a3, .ref a4, .ref a5, .ref a6, .ref a7, .ref a8, .ref a9, .ref a10, .ref a11])), (a2, .inr (10, [.ref a12, .ref a13, .ref a14, .ref a15, .ref a16, .int 0, .int 0]))] sz) t) (va_A [(a1, .inr (16, [.ref a2, .ref a3, .ref a4, .ref a5, .ref a6, .ref a7, .ref a8, .ref a9, .ref a10, .ref a11])), (a2, .inr (10, [.ref a12, .ref a13, .ref a14, .ref a15, .ref a16, .int 0, .int 0]))] sz)) 1 6 (va_A [(a1, .inr (16, [.ref a2, .ref a3, .ref a4, .ref a5, .ref a6, .ref a7, .ref a8, .ref a9, .ref a10, .ref a11])), (a2, .inr (10, [.ref a12, .ref a13, .ref a14, .ref a15, .ref a16, .int 0, .int 0]))] sz) := by
  refine vx_ofW (cc := cX11_needSomePoint) (maxL := 1) (ret := none) (by decide +kernel) rfl ?_
  intro p e s m args below meth c s₁ B hml hex hv
  obtain ⟨rfl, hsz, hP, hK, hD0, hG⟩ := hv
  have hx := B.exec
  have hb := B.bytes
  have hr := B.returns
  have hts := atoms_spec (ws := zsX11_needSomePoint) B.pre
  have hown : s.vm.findClass RX11 = some m.cls := findClass_of_methodNamed B.named
  have hlocks := B.notSynchronized
  have hin_X11 : ∀ w ∈ wsX110, w ∈ zsX11_needSomePoint := by decide +kernel
  have hin_X5 : ∀ w ∈ wsX50, w ∈ zsX11_needSomePoint := by decide +kernel
  have hm_140 : ∀ w ∈ (yAt RX11 140).filter goodWord, w ∈ zsX11_needSomePoint := by decide +kernel
  have hat_140 : ∀ w ∈ yAt RX11 140, w.before (#[.ref a1] : Array Value) s = true := vx_hat (B := xBad) (fun w hw => hts w (hm_140 w hw)) (by decide +kernel) (xBad_use hG.2.2.2.1)
  subst hsz
  have hD := hD0.self (sz := s.heap.size)
  generalize hAe : va_A [(a1, .inr (16, [.ref a2, .ref a3, .ref a4, .ref a5, .ref a6, .ref a7, .ref a8, .ref a9, .ref a10, .ref a11])), (a2, .inr (10, [.ref a12, .ref a13, .ref a14, .ref a15, .ref a16, .int 0, .int 0]))] s.heap.size = A at hD hG ⊢
  have hA : ∀ q : Nat, s.heap.size ≤ q → A q := fun q h => by rw [← hAe]; exact Or.inr h
  have hS : va_S A s.heap s.heap [] := va_S.rf
  have hl := lv_entry ([.ref a1]) (n := 1) (Nat.le_of_ble_eq_true rfl)
  rw [lg_entry_eq]
  generalize (lg_sl ([.ref a1]) ++ List.replicate (1 - (lg_sl ([.ref a1])).length) Slot.unset).toArray = ls at hl ⊢
  have hl : lv_has ls 1 [(0, .ref a1)] := hl
  refine lv_aload_n hx hb dX11_needSomePoint_0 rfl (lv_at hl 0 rfl) ?_
  refine va_get (D := (dC, dI)) (ci := 16) (v := .ref a2) (C := RX11) (T := TX11) (N := 10) hx hb hts hin_X11 hown hK hP 0 rfl rfl 0 (by decide) (hts (.fieldLink RX11 12 "Nearestward" "ground" "LNearestward$Ground;") (by decide +kernel)) (fun _ h9 => h9) rfl dX11_needSomePoint_1 ?_
  refine va_get (D := (dC, dI)) (ci := 10) (v := .int 0) (C := RX5) (T := TX5) (N := 7) hx hb hts hin_X5 hown hK hP 1 rfl rfl 5 (by decide) (hts (.fieldLink RX11 297 "Nearestward$Ground" "there" "I") (by decide +kernel)) (fun _ h9 => h9) rfl dX11_needSomePoint_4 ?_
  refine lv_if_ne (tgt := 21) hx hb dX11_needSomePoint_7 (by decide) (fun c_1 => absurd c_1 (by decide)) (fun c_1 => ?_)
  obtain ⟨sa, hsa⟩ := hG.2.2.2.2.1 (RX11, 358, "there are no points") (by decide +kernel)
  have hP9 := hP.sub (ws' := [(a1, .inr (16, [.ref a2, .ref a3, .ref a4, .ref a5, .ref a6, .ref a7, .ref a8, .ref a9, .ref a10, .ref a11])), (a2, .inr (10, [.ref a12, .ref a13, .ref a14, .ref a15, .ref a16, .int 0, .int 0]))]) [0, 1] rfl
  have hD9 := hD.sub (ws' := [(a1, .inr (16, [.ref a2, .ref a3, .ref a4, .ref a5, .ref a6, .ref a7, .ref a8, .ref a9, .ref a10, .ref a11])), (a2, .inr (10, [.ref a12, .ref a13, .ref a14, .ref a15, .ref a16, .int 0, .int 0]))]) [0, 1] (by decide) rfl
  exact yThrow (text := "there are no points") (ic := 140) hx hb hst hown (hts (.classLink RX11 136 "java/util/NoSuchElementException") (by decide +kernel)) (hts (.initialized "java/util/NoSuchElementException") (by decide +kernel)) hsa hat_140 (by decide +kernel) hG.1 hG.2.1 hS (by rw [hml]; exact hl.1) 3 dX11_needSomePoint_10 dX11_needSomePoint_13 (Or.inr ⟨rfl, dX11_needSomePoint_14⟩) dX11_needSomePoint_17 dX11_needSomePoint_20 (fun x hx => absurd (hex x hx) id) (Nat.le_of_ble_eq_true rfl) (Nat.le_of_ble_eq_true rfl) (Nat.le_of_ble_eq_true rfl) (Nat.le_of_ble_eq_true rfl) hlocks (fun t hvm hz1 hk1 => ⟨(), trivial, ⟨rfl, hP9.kept (fun k x hx => hk1 x.1 ((hP9 k x hx).lt)), hD9⟩, xthrF hS hz1 hk1⟩) hS.2.2 (Nat.le_of_ble_eq_true rfl) (Nat.le_of_ble_eq_true rfl)
set_option maxHeartbeats 4000000 in
set_option maxRecDepth 100000 in
theorem xnX11_farthest (l : Launch) (hst : l.stackTraces = false) (dC : Nat → ClassId) (dI : Nat → Nat → Nat) (T : Nat → ClassId) (a1 : Nat) (a2 : Nat) (a3 : Nat) (a4 : Nat) (a5 : Nat) (a6 : Nat) (a7 : Nat) (a8 : Nat) (a9 : Nat) (a10 : Nat) (a11 : Nat) (a12 : Nat) (a13 : Nat) (a14 : Nat) (a15 : Nat) (a16 : Nat) (sz : Nat) (p1 : Int32) (p2 : Int32) (p3 : Int32) : vx_Met l yX11_farthest zsX11_farthest ({ frames := 8, cells := 4, slots := 24, locals := 126 } : Room) (va_Pc [.ref a1, .int p1, .int p2, .int p3] (fun U => xB dC dI T [(a1, .inr (16, [.ref a2, .ref a3, .ref a4, .ref a5, .ref a6, .ref a7, .ref a8, .ref a9, .ref a10, .ref a11])), (a2, .inr (10, [.ref a12, .ref a13, .ref a14, .ref a15, .ref a16, .int 0, .int 0]))] sz U)) (va_Qi (fun (r u : Int32) => r = u) (fun (u : Int32) (t : State) => False) (va_A [(a1, .inr (16, [.ref a2, .ref a3, .ref a4, .ref a5, .ref a6, .ref a7, .ref a8, .ref a9, .ref a10, .ref a11])), (a2, .inr (10, [.ref a12, .ref a13, .ref a14, .ref a15, .ref a16, .int 0, .int 0]))] sz)) (vx_X (fun _ : Unit => True) (fun (E : String) (_ : Unit) (t : State) => ((((¬ (p1.toInt = 101)) ∧ (¬ (p1.toInt = 115)) ∧ (¬ (p1.toInt = 109)) ∧ (¬ (p1.toInt = 112))) ∨ (((p1.toInt = 101) ∨ ((¬ (p1.toInt = 101)) ∧ (p1.toInt = 115)) ∨ ((¬ (p1.toInt = 101)) ∧ (¬ (p1.toInt = 115)) ∧ (p1.toInt = 109)) ∨ ((¬ (p1.toInt = 101)) ∧ (¬ (p1.toInt = 115)) ∧ (¬ (p1.toInt = 109)) ∧ (p1.toInt = 112))) ∧ (((p2.toInt < -999) ∨ ((¬ (p2.toInt < -999)) ∧ (¬ (p2.toInt ≤ 999)))) ∨ (((¬ (p2.toInt < -999)) ∧ (p2.toInt ≤ 999)) ∧ ((p3.toInt < -999) ∨ ((¬ (p3.toInt < -999)) ∧ (¬ (p3.toInt ≤ 999)))))))) ∧ E = "java/lang/IllegalArgumentException" ∧ xE dC dI [] (va_A [(a1, .inr (16, [.ref a2, .ref a3, .ref a4, .ref a5, .ref a6, .ref a7, .ref a8, .ref a9, .ref a10, .ref a11])), (a2, .inr (10, [.ref a12, .ref a13, .ref a14, .ref a15, .ref a16, .int 0, .int 0]))] sz) t) ∨ ((((p1.toInt = 101) ∨ ((¬ (p1.toInt = 101)) ∧ (p1.toInt = 115)) ∨ ((¬ (p1.toInt = 101)) ∧ (¬ (p1.toInt = 115)) ∧ (p1.toInt = 109)) ∨ ((¬ (p1.toInt = 101)) ∧ (¬ (p1.toInt = 115)) ∧ (¬ (p1.toInt = 109)) ∧ (p1.toInt = 112))) ∧ (((¬ (p2.toInt < -999)) ∧ (p2.toInt ≤ 999)) ∧ ((¬ (p3.toInt < -999)) ∧ (p3.toInt ≤ 999)))) ∧ E = "java/util/NoSuchElementException" ∧ xE dC dI [] (va_A [(a1, .inr (16, [.ref a2, .ref a3, .ref a4, .ref a5, .ref a6, .ref a7, .ref a8, .ref a9, .ref a10, .ref a11])), (a2, .inr (10, [.ref a12, .ref a13, .ref a14, .ref a15, .ref a16, .int 0, .int 0]))] sz) t)) (va_A [(a1, .inr (16, [.ref a2, .ref a3, .ref a4, .ref a5, .ref a6, .ref a7, .ref a8, .ref a9, .ref a10, .ref a11])), (a2, .inr (10, [.ref a12, .ref a13, .ref a14, .ref a15, .ref a16, .int 0, .int 0]))] sz)) 4 24 (va_A [(a1, .inr (16, [.ref a2, .ref a3, .ref a4, .ref a5, .ref a6, .ref a7, .ref a8, .ref a9, .ref a10, .ref a11])), (a2, .inr (10, [.ref a12, .ref a13, .ref a14, .ref a15, .ref a16, .int 0, .int 0]))] sz) := by
  refine vx_ofW (cc := cX11_farthest) (maxL := 4) (ret := (some .int)) (by decide +kernel) rfl ?_
  intro p e s m args below meth c s₁ B hml hex hv
  obtain ⟨rfl, hsz, hP, hK, hD0, hG⟩ := hv
  have hx := B.exec
  have hb := B.bytes
  have hr := B.returns
  have hts := atoms_spec (ws := zsX11_farthest) B.pre
  have hown : s.vm.findClass RX11 = some m.cls := findClass_of_methodNamed B.named
  have hlocks := B.notSynchronized
  subst hsz
  have hD := hD0.self (sz := s.heap.size)
  generalize hAe : va_A [(a1, .inr (16, [.ref a2, .ref a3, .ref a4, .ref a5, .ref a6, .ref a7, .ref a8, .ref a9, .ref a10, .ref a11])), (a2, .inr (10, [.ref a12, .ref a13, .ref a14, .ref a15, .ref a16, .int 0, .int 0]))] s.heap.size = A at hD hG ⊢
  have hA : ∀ q : Nat, s.heap.size ≤ q → A q := fun q h => by rw [← hAe]; exact Or.inr h
  have hS : va_S A s.heap s.heap [] := va_S.rf
  have hl := lv_entry ([.ref a1, .int p1, .int p2, .int p3]) (n := 4) (Nat.le_of_ble_eq_true rfl)
  rw [lg_entry_eq]
  generalize (lg_sl ([.ref a1, .int p1, .int p2, .int p3]) ++ List.replicate (4 - (lg_sl ([.ref a1, .int p1, .int p2, .int p3])).length) Slot.unset).toArray = ls at hl ⊢
  have hl : lv_has ls 4 [(0, .ref a1), (1, .int p1), (2, .int p2), (3, .int p3)] := hl
  refine lv_iload_n hx hb dX11_farthest_0 rfl (lv_at hl 1 rfl) ?_
  have hPc := hP.sub (ws' := []) [] rfl
  have hDc := hD.sub (ws' := []) [] (by decide) rfl
  have hFc := va_free (wc := []) hD hS hA [] rfl
  refine vx_callv (vx_runS (As := [.int p1]) (rest := []) ⟨hx, hb, hml, hown, hts⟩ (xcX11_needKind l hst dC dI T s.heap.size p1) (cwS 1 hts ygX11_farthest_X11_needKind rfl rfl rfl (by decide +kernel) ⟨Nat.le_of_ble_eq_true rfl, Nat.le_of_ble_eq_true rfl⟩) ⟨xBlind, xCall hK hG hS hPc hDc hFc⟩ rfl rfl hl.1 rfl (lv_room (Nat.le_of_ble_eq_true rfl)) dX11_farthest_1 ⟨Nat.le_of_ble_eq_true rfl, Nat.le_of_ble_eq_true rfl⟩) hS (fun q _ h => hFc q h) hFc (fun q _ h => hFc q h) (fun E ce q9 u t H locs ht hvm hw hB hz1 hk1 hS hce hcv hcl => ?_) (fun u t H locs ht hvm hw hB hz1 hk1 hS => ?_)
  · rcases hB with ⟨c_1, hE, hP1, hD1⟩
    subst hE
    rw [ht] at hP1
    obtain ⟨hP, hD⟩ := va_join (wr := [(a1, .inr (16, [.ref a2, .ref a3, .ref a4, .ref a5, .ref a6, .ref a7, .ref a8, .ref a9, .ref a10, .ref a11])), (a2, .inr (10, [.ref a12, .ref a13, .ref a14, .ref a15, .ref a16, .int 0, .int 0]))]) (w1 := []) hP hD [] [0, 1] rfl rfl (by decide) (by decide) hk1 hFc hP1 hD1
    have hP : va_P (dC, dI) vwCl [(a1, .inr (16, [.ref a2, .ref a3, .ref a4, .ref a5, .ref a6, .ref a7, .ref a8, .ref a9, .ref a10, .ref a11])), (a2, .inr (10, [.ref a12, .ref a13, .ref a14, .ref a15, .ref a16, .int 0, .int 0]))] H := hP
    have hD : va_D A [(a1, .inr (16, [.ref a2, .ref a3, .ref a4, .ref a5, .ref a6, .ref a7, .ref a8, .ref a9, .ref a10, .ref a11])), (a2, .inr (10, [.ref a12, .ref a13, .ref a14, .ref a15, .ref a16, .int 0, .int 0]))] := hD
    clear hPc hDc hFc hP1 hD1 hk1 hz1 ht hvm
    have hP9 := hP.sub (ws' := []) [] rfl
    have hD9 := hD.sub (ws' := []) [] (by decide) rfl
    exact vx_out (fun x hx => absurd (hex x hx) id) hlocks hce hcv hcl (fun t ht _ => ⟨(), trivial, (Or.inl ⟨(Or.inl c_1), rfl, by rw [ht]; exact hP9, hD9⟩), hS.F ht⟩) hS.2.2 (Nat.le_of_ble_eq_true rfl) (Nat.le_of_ble_eq_true rfl)
  · rcases hB with ⟨c_2, hP1, hD1⟩
    rw [ht] at hP1
    obtain ⟨hP, hD⟩ := va_join (wr := [(a1, .inr (16, [.ref a2, .ref a3, .ref a4, .ref a5, .ref a6, .ref a7, .ref a8, .ref a9, .ref a10, .ref a11])), (a2, .inr (10, [.ref a12, .ref a13, .ref a14, .ref a15, .ref a16, .int 0, .int 0]))]) (w1 := []) hP hD [] [0, 1] rfl rfl (by decide) (by decide) hk1 hFc hP1 hD1
    have hP : va_P (dC, dI) vwCl [(a1, .inr (16, [.ref a2, .ref a3, .ref a4, .ref a5, .ref a6, .ref a7, .ref a8, .ref a9, .ref a10, .ref a11])), (a2, .inr (10, [.ref a12, .ref a13, .ref a14, .ref a15, .ref a16, .int 0, .int 0]))] H := hP
    have hD : va_D A [(a1, .inr (16, [.ref a2, .ref a3, .ref a4, .ref a5, .ref a6, .ref a7, .ref a8, .ref a9, .ref a10, .ref a11])), (a2, .inr (10, [.ref a12, .ref a13, .ref a14, .ref a15, .ref a16, .int 0, .int 0]))] := hD
    clear hPc hDc hFc hP1 hD1 hk1 hz1 ht hvm
    refine lv_iload_n hx hb dX11_farthest_4 rfl (lv_at hl 2 rfl) ?_
    refine lv_iload_n hx hb dX11_farthest_5 rfl (lv_at hl 3 rfl) ?_
    refine lv_sipush (v := 999) hx hb dX11_farthest_6 (by decide) ?_
    have hPc := hP.sub (ws' := []) [] rfl
    have hDc := hD.sub (ws' := []) [] (by decide) rfl
    have hFc := va_free (wc := []) hD hS hA [] rfl
    refine vx_callv (vx_runS (As := [.int p2, .int p3, .int 999]) (rest := []) ⟨hx, hb, hml, hown, hts⟩ (xcX11_needBoth_v2 l hst dC dI T H.size p2 p3) (cwS 3 hts ygX11_farthest_X11_needBoth rfl rfl rfl (by decide +kernel) ⟨Nat.le_of_ble_eq_true rfl, Nat.le_of_ble_eq_true rfl⟩) ⟨xBlind, xCall hK hG hS hPc hDc hFc⟩ rfl rfl hl.1 rfl (lv_room (Nat.le_of_ble_eq_true rfl)) dX11_farthest_9 ⟨Nat.le_of_ble_eq_true rfl, Nat.le_of_ble_eq_true rfl⟩) hS (fun q _ h => hFc q h) hFc (fun q _ h => hFc q h) (fun E ce q9 u t H locs ht hvm hw hB hz1 hk1 hS hce hcv hcl => ?_) (fun u t H locs ht hvm hw hB hz1 hk1 hS => ?_)
    · rcases hB with ⟨c_3, hE, hP1, hD1⟩
      subst hE
      rw [ht] at hP1
      obtain ⟨hP, hD⟩ := va_join (wr := [(a1, .inr (16, [.ref a2, .ref a3, .ref a4, .ref a5, .ref a6, .ref a7, .ref a8, .ref a9, .ref a10, .ref a11])), (a2, .inr (10, [.ref a12, .ref a13, .ref a14, .ref a15, .ref a16, .int 0, .int 0]))]) (w1 := []) hP hD [] [0, 1] rfl rfl (by decide) (by decide) hk1 hFc hP1 hD1
      have hP : va_P (dC, dI) vwCl [(a1, .inr (16, [.ref a2, .ref a3, .ref a4, .ref a5, .ref a6, .ref a7, .ref a8, .ref a9, .ref a10, .ref a11])), (a2, .inr (10, [.ref a12, .ref a13, .ref a14, .ref a15, .ref a16, .int 0, .int 0]))] H := hP
      have hD : va_D A [(a1, .inr (16, [.ref a2, .ref a3, .ref a4, .ref a5, .ref a6, .ref a7, .ref a8, .ref a9, .ref a10, .ref a11])), (a2, .inr (10, [.ref a12, .ref a13, .ref a14, .ref a15, .ref a16, .int 0, .int 0]))] := hD
      clear hPc hDc hFc hP1 hD1 hk1 hz1 ht hvm
      have hP9 := hP.sub (ws' := []) [] rfl
      have hD9 := hD.sub (ws' := []) [] (by decide) rfl
      exact vx_out (fun x hx => absurd (hex x hx) id) hlocks hce hcv hcl (fun t ht _ => ⟨(), trivial, (Or.inl ⟨(Or.inr (⟨c_2, c_3⟩)), rfl, by rw [ht]; exact hP9, hD9⟩), hS.F ht⟩) hS.2.2 (Nat.le_of_ble_eq_true rfl) (Nat.le_of_ble_eq_true rfl)
    · rcases hB with ⟨c_4, hP1, hD1⟩
      rw [ht] at hP1
      obtain ⟨hP, hD⟩ := va_join (wr := [(a1, .inr (16, [.ref a2, .ref a3, .ref a4, .ref a5, .ref a6, .ref a7, .ref a8, .ref a9, .ref a10, .ref a11])), (a2, .inr (10, [.ref a12, .ref a13, .ref a14, .ref a15, .ref a16, .int 0, .int 0]))]) (w1 := []) hP hD [] [0, 1] rfl rfl (by decide) (by decide) hk1 hFc hP1 hD1
      have hP : va_P (dC, dI) vwCl [(a1, .inr (16, [.ref a2, .ref a3, .ref a4, .ref a5, .ref a6, .ref a7, .ref a8, .ref a9, .ref a10, .ref a11])), (a2, .inr (10, [.ref a12, .ref a13, .ref a14, .ref a15, .ref a16, .int 0, .int 0]))] H := hP
      have hD : va_D A [(a1, .inr (16, [.ref a2, .ref a3, .ref a4, .ref a5, .ref a6, .ref a7, .ref a8, .ref a9, .ref a10, .ref a11])), (a2, .inr (10, [.ref a12, .ref a13, .ref a14, .ref a15, .ref a16, .int 0, .int 0]))] := hD
      clear hPc hDc hFc hP1 hD1 hk1 hz1 ht hvm
      refine lv_aload_n hx hb dX11_farthest_12 rfl (lv_at hl 0 rfl) ?_
      have hPc := hP.sub (ws' := [(a1, .inr (16, [.ref a2, .ref a3, .ref a4, .ref a5, .ref a6, .ref a7, .ref a8, .ref a9, .ref a10, .ref a11])), (a2, .inr (10, [.ref a12, .ref a13, .ref a14, .ref a15, .ref a16, .int 0, .int 0]))]) [0, 1] rfl
      have hDc := hD.sub (ws' := [(a1, .inr (16, [.ref a2, .ref a3, .ref a4, .ref a5, .ref a6, .ref a7, .ref a8, .ref a9, .ref a10, .ref a11])), (a2, .inr (10, [.ref a12, .ref a13, .ref a14, .ref a15, .ref a16, .int 0, .int 0]))]) [0, 1] (by decide) rfl
      have hFc := va_free (wc := [(a1, .inr (16, [.ref a2, .ref a3, .ref a4, .ref a5, .ref a6, .ref a7, .ref a8, .ref a9, .ref a10, .ref a11])), (a2, .inr (10, [.ref a12, .ref a13, .ref a14, .ref a15, .ref a16, .int 0, .int 0]))]) hD hS hA [0, 1] rfl
      refine vx_callv (vx_runV (As := []) (rest := []) ⟨hx, hb, hml, hown, hts⟩ (xnX11_needSomePoint l hst dC dI T a1 a2 a3 a4 a5 a6 a7 a8 a9 a10 a11 a12 a13 a14 a15 a16 H.size) (cwV 0 hts ygX11_farthest_X11_needSomePoint rfl rfl rfl (by decide +kernel) ⟨Nat.le_of_ble_eq_true rfl, Nat.le_of_ble_eq_true rfl⟩) ⟨xBlind, va_recv hK hPc (ci := 16) (q0 := 0) rfl rfl, xCall hK hG hS hPc hDc hFc⟩ rfl rfl hl.1 rfl (lv_room (Nat.le_of_ble_eq_true rfl)) dX11_farthest_13 ⟨Nat.le_of_ble_eq_true rfl, Nat.le_of_ble_eq_true rfl⟩) hS (fun q _ h => hFc q h) hFc (fun q _ h => hFc q h) (fun E ce q9 u t H locs ht hvm hw hB hz1 hk1 hS hce hcv hcl => ?_) (fun u t H locs ht hvm hw hB hz1 hk1 hS => ?_)
      · rcases hB with ⟨hE, hP1, hD1⟩
        subst hE
        rw [ht] at hP1
        obtain ⟨hP, hD⟩ := va_join (wr := []) (w1 := [(a1, .inr (16, [.ref a2, .ref a3, .ref a4, .ref a5, .ref a6, .ref a7, .ref a8, .ref a9, .ref a10, .ref a11])), (a2, .inr (10, [.ref a12, .ref a13, .ref a14, .ref a15, .ref a16, .int 0, .int 0]))]) hP hD [0, 1] [] rfl rfl (by decide) (by decide) hk1 hFc hP1 hD1
        have hP : va_P (dC, dI) vwCl [(a1, .inr (16, [.ref a2, .ref a3, .ref a4, .ref a5, .ref a6, .ref a7, .ref a8, .ref a9, .ref a10, .ref a11])), (a2, .inr (10, [.ref a12, .ref a13, .ref a14, .ref a15, .ref a16, .int 0, .int 0]))] H := hP
        have hD : va_D A [(a1, .inr (16, [.ref a2, .ref a3, .ref a4, .ref a5, .ref a6, .ref a7, .ref a8, .ref a9, .ref a10, .ref a11])), (a2, .inr (10, [.ref a12, .ref a13, .ref a14, .ref a15, .ref a16, .int 0, .int 0]))] := hD
        clear hPc hDc hFc hP1 hD1 hk1 hz1 ht hvm
        have hP9 := hP.sub (ws' := []) [] rfl
        have hD9 := hD.sub (ws' := []) [] (by decide) rfl
        exact vx_out (fun x hx => absurd (hex x hx) id) hlocks hce hcv hcl (fun t ht _ => ⟨(), trivial, (Or.inr (⟨⟨c_2, c_4⟩, rfl, by rw [ht]; exact hP9, hD9⟩)), hS.F ht⟩) hS.2.2 (Nat.le_of_ble_eq_true rfl) (Nat.le_of_ble_eq_true rfl)
      · exact absurd hB id
set_option maxHeartbeats 4000000 in
set_option maxRecDepth 100000 in
theorem xnL_farthest (l : Launch) (hst : l.stackTraces = false) (dC : Nat → ClassId) (dI : Nat → Nat → Nat) (T : Nat → ClassId) (a1 : Nat) (a2 : Nat) (a3 : Nat) (a4 : Nat) (a5 : Nat) (a6 : Nat) (a7 : Nat) (a8 : Nat) (a9 : Nat) (a10 : Nat) (a11 : Nat) (a12 : Nat) (a13 : Nat) (a14 : Nat) (a15 : Nat) (a16 : Nat) (a17 : Nat) (sz : Nat) (p1 : Int32) (p2 : Int32) (p3 : Int32) : Met l yL_farthest zsL_farthest ({ frames := 9, cells := 4, slots := 24, locals := 149 } : Room) (va_Pc [.ref a1, .int p1, .int p2, .int p3, .ref a2] (fun U => xB dC dI T [(a1, .inr (16, [.ref a3, .ref a4, .ref a5, .ref a6, .ref a7, .ref a8, .ref a9, .ref a10, .ref a11, .ref a12])), (a3, .inr (10, [.ref a13, .ref a14, .ref a15, .ref a16, .ref a17, .int 0, .int 0]))] sz U)) (va_Qi (fun (r u : Int32) => r = u) (fun (u : Int32) (t : State) => ((((¬ (p1.toInt = 101)) ∧ (¬ (p1.toInt = 115)) ∧ (¬ (p1.toInt = 109)) ∧ (¬ (p1.toInt = 112))) ∨ (((p1.toInt = 101) ∨ ((¬ (p1.toInt = 101)) ∧ (p1.toInt = 115)) ∨ ((¬ (p1.toInt = 101)) ∧ (¬ (p1.toInt = 115)) ∧ (p1.toInt = 109)) ∨ ((¬ (p1.toInt = 101)) ∧ (¬ (p1.toInt = 115)) ∧ (¬ (p1.toInt = 109)) ∧ (p1.toInt = 112))) ∧ (((p2.toInt < -999) ∨ ((¬ (p2.toInt < -999)) ∧ (¬ (p2.toInt ≤ 999)))) ∨ (((¬ (p2.toInt < -999)) ∧ (p2.toInt ≤ 999)) ∧ ((p3.toInt < -999) ∨ ((¬ (p3.toInt < -999)) ∧ (¬ (p3.toInt ≤ 999)))))))) ∧ 1 = u ∧ xE dC dI [] (va_A [(a1, .inr (16, [.ref a3, .ref a4, .ref a5, .ref a6, .ref a7, .ref a8, .ref a9, .ref a10, .ref a11, .ref a12])), (a3, .inr (10, [.ref a13, .ref a14, .ref a15, .ref a16, .ref a17, .int 0, .int 0]))] sz) t) ∨ ((((p1.toInt = 101) ∨ ((¬ (p1.toInt = 101)) ∧ (p1.toInt = 115)) ∨ ((¬ (p1.toInt = 101)) ∧ (¬ (p1.toInt = 115)) ∧ (p1.toInt = 109)) ∨ ((¬ (p1.toInt = 101)) ∧ (¬ (p1.toInt = 115)) ∧ (¬ (p1.toInt = 109)) ∧ (p1.toInt = 112))) ∧ (((¬ (p2.toInt < -999)) ∧ (p2.toInt ≤ 999)) ∧ ((¬ (p3.toInt < -999)) ∧ (p3.toInt ≤ 999)))) ∧ 2 = u ∧ xE dC dI [] (va_A [(a1, .inr (16, [.ref a3, .ref a4, .ref a5, .ref a6, .ref a7, .ref a8, .ref a9, .ref a10, .ref a11, .ref a12])), (a3, .inr (10, [.ref a13, .ref a14, .ref a15, .ref a16, .ref a17, .int 0, .int 0]))] sz) t)) (va_A [(a1, .inr (16, [.ref a3, .ref a4, .ref a5, .ref a6, .ref a7, .ref a8, .ref a9, .ref a10, .ref a11, .ref a12])), (a3, .inr (10, [.ref a13, .ref a14, .ref a15, .ref a16, .ref a17, .int 0, .int 0]))] sz)) 4 24 (va_A [(a1, .inr (16, [.ref a3, .ref a4, .ref a5, .ref a6, .ref a7, .ref a8, .ref a9, .ref a10, .ref a11, .ref a12])), (a3, .inr (10, [.ref a13, .ref a14, .ref a15, .ref a16, .ref a17, .int 0, .int 0]))] sz) := by
  refine va_MetW (cc := cL_farthest) (maxL := 6) (ret := (some .int)) (hh := [(0, 12, 15, 13), (0, 12, 19, 35)]) (by decide +kernel) rfl ?_
  intro p e s m args below meth c s₁ B hml hv
  obtain ⟨rfl, hsz, hP, hK, hD0, hG⟩ := hv
  have hx := B.exec
  have hb := B.bytes
  have hr := B.returns
  have hts := atoms_spec (ws := zsL_farthest) B.pre
  have hown : s.vm.findClass RL = some m.cls := findClass_of_methodNamed B.named
  have hlocks := B.notSynchronized
  have htab := vx_table (x := yL_farthest) B (hts (.codeWith yL_farthest cL_farthest 6 (some .int) [(0, 12, 15, 13), (0, 12, 19, 35)]) (by decide +kernel))
  subst hsz
  have hD := hD0.self (sz := s.heap.size)
  generalize hAe : va_A [(a1, .inr (16, [.ref a3, .ref a4, .ref a5, .ref a6, .ref a7, .ref a8, .ref a9, .ref a10, .ref a11, .ref a12])), (a3, .inr (10, [.ref a13, .ref a14, .ref a15, .ref a16, .ref a17, .int 0, .int 0]))] s.heap.size = A at hD hG ⊢
  have hA : ∀ q : Nat, s.heap.size ≤ q → A q := fun q h => by rw [← hAe]; exact Or.inr h
  have hS : va_S A s.heap s.heap [] := va_S.rf
  have hl := lv_entry ([.ref a1, .int p1, .int p2, .int p3, .ref a2]) (n := 6) (Nat.le_of_ble_eq_true rfl)
  rw [lg_entry_eq]
  generalize (lg_sl ([.ref a1, .int p1, .int p2, .int p3, .ref a2]) ++ List.replicate (6 - (lg_sl ([.ref a1, .int p1, .int p2, .int p3, .ref a2])).length) Slot.unset).toArray = ls at hl ⊢
  have hl : lv_has ls 6 [(0, .ref a1), (1, .int p1), (2, .int p2), (3, .int p3), (4, .ref a2)] := hl
  refine lv_aload hx hb dL_farthest_0 (lv_at hl 4 rfl) ?_
  refine lv_iconst (v := 0) hx hb dL_farthest_2 (by decide) ?_
  refine lv_aload_n hx hb dL_farthest_3 rfl (lv_at hl 0 rfl) ?_
  refine lv_iload_n hx hb dL_farthest_4 rfl (lv_at hl 1 rfl) ?_
  refine lv_iload_n hx hb dL_farthest_5 rfl (lv_at hl 2 rfl) ?_
  refine lv_iload_n hx hb dL_farthest_6 rfl (lv_at hl 3 rfl) ?_
  have hPc := hP.sub (ws' := [(a1, .inr (16, [.ref a3, .ref a4, .ref a5, .ref a6, .ref a7, .ref a8, .ref a9, .ref a10, .ref a11, .ref a12])), (a3, .inr (10, [.ref a13, .ref a14, .ref a15, .ref a16, .ref a17, .int 0, .int 0]))]) [0, 1] rfl
  have hDc := hD.sub (ws' := [(a1, .inr (16, [.ref a3, .ref a4, .ref a5, .ref a6, .ref a7, .ref a8, .ref a9, .ref a10, .ref a11, .ref a12])), (a3, .inr (10, [.ref a13, .ref a14, .ref a15, .ref a16, .ref a17, .int 0, .int 0]))]) [0, 1] (by decide) rfl
  have hFc := va_free (wc := [(a1, .inr (16, [.ref a3, .ref a4, .ref a5, .ref a6, .ref a7, .ref a8, .ref a9, .ref a10, .ref a11, .ref a12])), (a3, .inr (10, [.ref a13, .ref a14, .ref a15, .ref a16, .ref a17, .int 0, .int 0]))]) hD hS hA [0, 1] rfl
  refine vx_calli (vx_runV (As := [.int p1, .int p2, .int p3]) (rest := [.int 0, .ref a2]) ⟨hx, hb, hml, hown, hts⟩ (xnX11_farthest l hst dC dI T a1 a3 a4 a5 a6 a7 a8 a9 a10 a11 a12 a13 a14 a15 a16 a17 s.heap.size p1 p2 p3) (cwV 3 hts ygL_farthest_X11_farthest rfl rfl rfl (by decide +kernel) ⟨Nat.le_of_ble_eq_true rfl, Nat.le_of_ble_eq_true rfl⟩) ⟨xBlind, va_recv hK hPc (ci := 16) (q0 := 0) rfl rfl, xCall hK hG hS hPc hDc hFc⟩ rfl rfl hl.1 rfl (lv_room (Nat.le_of_ble_eq_true rfl)) dL_farthest_7 ⟨Nat.le_of_ble_eq_true rfl, Nat.le_of_ble_eq_true rfl⟩) hS (fun q _ h => hFc q h) hFc (fun q _ h => hFc q h) (fun E ce q9 u t H locs ht hvm hw hB hz1 hk1 hS hce hcv hcl => ?_) (fun r_9 u t H locs ht hvm hw hB hz1 hk1 hS => ?_)
  · rcases hB with ⟨c_1, hE, hP1, hD1⟩ | ⟨c_2, hE, hP1, hD1⟩
    · subst hE
      rw [ht] at hP1
      obtain ⟨hP, hD⟩ := va_join (wr := []) (w1 := []) hP hD [0, 1] [] rfl rfl (by decide) (by decide) hk1 hFc hP1 hD1
      have hP : va_P (dC, dI) vwCl [] H := hP
      have hD : va_D A [] := hD
      clear hPc hDc hFc hP1 hD1 hk1 hz1 ht hvm
      refine vx_catch (E := "java/lang/IllegalArgumentException") (name := "java/lang/IllegalArgumentException") hown [] ⟨0, 12, 15, 13⟩ [⟨0, 12, 19, 35⟩] (htab.trans rfl) (fun _ h => absurd h List.not_mem_nil) (by decide) (by decide) (hts (.classLink RL 13 "java/lang/IllegalArgumentException") (by decide +kernel)) (xBad_use hG.2.2.2.1 _ (by decide +kernel)) hce hcv hcl ?_
      refine lv_astore (lv' := [(5, .ref q9), (0, .ref a1), (1, .int p1), (2, .int p2), (3, .int p3), (4, .ref a2)]) hx hb dL_farthest_15 hl (by decide) rfl (fun ls hl => ?_)
      refine lv_iconst (v := 1) hx hb dL_farthest_17 (by decide) ?_
      have hP9 := hP.sub (ws' := []) [] rfl
      have hD9 := hD.sub (ws' := []) [] (by decide) rfl
      exact W.iret (v := 1) hx hb hr (fun t ht hW => ⟨⟨_, _, rfl, rfl, (Or.inl ⟨c_1, rfl, by rw [ht]; exact hP9, hD9⟩)⟩, hS.F ht⟩) hS.2.2 dL_farthest_18
    · subst hE
      rw [ht] at hP1
      obtain ⟨hP, hD⟩ := va_join (wr := []) (w1 := []) hP hD [0, 1] [] rfl rfl (by decide) (by decide) hk1 hFc hP1 hD1
      have hP : va_P (dC, dI) vwCl [] H := hP
      have hD : va_D A [] := hD
      clear hPc hDc hFc hP1 hD1 hk1 hz1 ht hvm
      refine vx_catch (E := "java/util/NoSuchElementException") (name := "java/util/NoSuchElementException") hown [⟨0, 12, 15, 13⟩] ⟨0, 12, 19, 35⟩ [] (htab.trans rfl) (List.forall_mem_cons.mpr ⟨(Or.inr ⟨by decide, "java/lang/IllegalArgumentException", hts (.classLink RL 13 "java/lang/IllegalArgumentException") (by decide +kernel), (hG.2.2.2.2.2.2.2.2.2.2.2.2.1 ("java/util/NoSuchElementException", "java/lang/IllegalArgumentException") (List.mem_of_getElem? (i := 10) rfl))⟩), (fun _ h => absurd h List.not_mem_nil)⟩) (by decide) (by decide) (hts (.classLink RL 35 "java/util/NoSuchElementException") (by decide +kernel)) (xBad_use hG.2.2.2.1 _ (by decide +kernel)) hce hcv hcl ?_
      refine lv_astore (lv' := [(5, .ref q9), (0, .ref a1), (1, .int p1), (2, .int p2), (3, .int p3), (4, .ref a2)]) hx hb dL_farthest_19 hl (by decide) rfl (fun ls hl => ?_)
      refine lv_iconst (v := 2) hx hb dL_farthest_21 (by decide) ?_
      have hP9 := hP.sub (ws' := []) [] rfl
      have hD9 := hD.sub (ws' := []) [] (by decide) rfl
      exact W.iret (v := 2) hx hb hr (fun t ht hW => ⟨⟨_, _, rfl, rfl, (Or.inr (⟨c_2, rfl, by rw [ht]; exact hP9, hD9⟩))⟩, hS.F ht⟩) hS.2.2 dL_farthest_22
  · exact absurd hB id
set_option maxHeartbeats 4000000 in
set_option maxRecDepth 100000 in
theorem xnX11_hullAt (l : Launch) (hst : l.stackTraces = false) (dC : Nat → ClassId) (dI : Nat → Nat → Nat) (T : Nat → ClassId) (a1 : Nat) (a2 : Nat) (a3 : Nat) (a4 : Nat) (a5 : Nat) (a6 : Nat) (a7 : Nat) (a8 : Nat) (a9 : Nat) (a10 : Nat) (a11 : Nat) (a12 : Nat) (a13 : Nat) (a14 : Nat) (a15 : Nat) (a16 : Nat) (a23 : Nat) (sz : Nat) (p1 : Int32) : vx_Met l yX11_hullAt zsX11_hullAt ({ frames := 6, cells := 1, slots := 6, locals := 88 } : Room) (va_Pc [.ref a1, .int p1] (fun U => xB dC dI T [(a1, .inr (16, [.ref a2, .ref a3, .ref a4, .ref a5, .ref a6, .ref a7, .ref a8, .ref a9, .ref a10, .ref a11])), (a2, .inr (10, [.ref a12, .ref a13, .ref a14, .ref a15, .ref a16, .int 0, .int 0])), (a6, .inr (12, [.ref a23, .int 0]))] sz U)) (va_Qi (fun (r u : Int32) => r = u) (fun (u : Int32) (t : State) => False) (va_A [(a1, .inr (16, [.ref a2, .ref a3, .ref a4, .ref a5, .ref a6, .ref a7, .ref a8, .ref a9, .ref a10, .ref a11])), (a2, .inr (10, [.ref a12, .ref a13, .ref a14, .ref a15, .ref a16, .int 0, .int 0])), (a6, .inr (12, [.ref a23, .int 0]))] sz)) (vx_X (fun _ : Unit => True) (fun (E : String) (_ : Unit) (t : State) => E = "java/util/NoSuchElementException" ∧ xE dC dI [] (va_A [(a1, .inr (16, [.ref a2, .ref a3, .ref a4, .ref a5, .ref a6, .ref a7, .ref a8, .ref a9, .ref a10, .ref a11])), (a2, .inr (10, [.ref a12, .ref a13, .ref a14, .ref a15, .ref a16, .int 0, .int 0])), (a6, .inr (12, [.ref a23, .int 0]))] sz) t) (va_A [(a1, .inr (16, [.ref a2, .ref a3, .ref a4, .ref a5, .ref a6, .ref a7, .ref a8, .ref a9, .ref a10, .ref a11])), (a2, .inr (10, [.ref a12, .ref a13, .ref a14, .ref a15, .ref a16, .int 0, .int 0])), (a6, .inr (12, [.ref a23, .int 0]))] sz)) 1 6 (va_A [(a1, .inr (16, [.ref a2, .ref a3, .ref a4, .ref a5, .ref a6, .ref a7, .ref a8, .ref a9, .ref a10, .ref a11])), (a2, .inr (10, [.ref a12, .ref a13, .ref a14, .ref a15, .ref a16, .int 0, .int 0])), (a6, .inr (12, [.ref a23, .int 0]))] sz) := by
  refine vx_ofW (cc := cX11_hullAt) (maxL := 2) (ret := (some .int)) (by decide +kernel) rfl ?_
  intro p e s m args below meth c s₁ B hml hex hv
  obtain ⟨rfl, hsz, hP, hK, hD0, hG⟩ := hv
  have hx := B.exec
  have hb := B.bytes
  have hr := B.returns
  have hts := atoms_spec (ws := zsX11_hullAt) B.pre
  have hown : s.vm.findClass RX11 = some m.cls := findClass_of_methodNamed B.named
  have hlocks := B.notSynchronized
  have hin_X11 : ∀ w ∈ wsX110, w ∈ zsX11_hullAt := by decide +kernel
  have hin_X7 : ∀ w ∈ wsX70, w ∈ zsX11_hullAt := by decide +kernel
  have hm_140 : ∀ w ∈ (yAt RX11 140).filter goodWord, w ∈ zsX11_hullAt := by decide +kernel
  have hat_140 : ∀ w ∈ yAt RX11 140, w.before (#[.ref a1, .int p1] : Array Value) s = true := vx_hat (B := xBad) (fun w hw => hts w (hm_140 w hw)) (by decide +kernel) (xBad_use hG.2.2.2.1)
  subst hsz
  have hD := hD0.self (sz := s.heap.size)
  generalize hAe : va_A [(a1, .inr (16, [.ref a2, .ref a3, .ref a4, .ref a5, .ref a6, .ref a7, .ref a8, .ref a9, .ref a10, .ref a11])), (a2, .inr (10, [.ref a12, .ref a13, .ref a14, .ref a15, .ref a16, .int 0, .int 0])), (a6, .inr (12, [.ref a23, .int 0]))] s.heap.size = A at hD hG ⊢
  have hA : ∀ q : Nat, s.heap.size ≤ q → A q := fun q h => by rw [← hAe]; exact Or.inr h
  have hS : va_S A s.heap s.heap [] := va_S.rf
  have hl := lv_entry ([.ref a1, .int p1]) (n := 2) (Nat.le_of_ble_eq_true rfl)
  rw [lg_entry_eq]
  generalize (lg_sl ([.ref a1, .int p1]) ++ List.replicate (2 - (lg_sl ([.ref a1, .int p1])).length) Slot.unset).toArray = ls at hl ⊢
  have hl : lv_has ls 2 [(0, .ref a1), (1, .int p1)] := hl
  refine lv_aload_n hx hb dX11_hullAt_0 rfl (lv_at hl 0 rfl) ?_
  refine va_get (D := (dC, dI)) (ci := 16) (v := .ref a6) (C := RX11) (T := TX11) (N := 10) hx hb hts hin_X11 hown hK hP 0 rfl rfl 4 (by decide) (hts (.fieldLink RX11 40 "Nearestward" "hull" "LNearestward$Hull;") (by decide +kernel)) (fun _ h9 => h9) rfl dX11_hullAt_1 ?_
  refine lv_aload_n hx hb dX11_hullAt_4 rfl (lv_at hl 0 rfl) ?_
  refine va_get (D := (dC, dI)) (ci := 16) (v := .ref a2) (C := RX11) (T := TX11) (N := 10) hx hb hts hin_X11 hown hK hP 0 rfl rfl 0 (by decide) (hts (.fieldLink RX11 12 "Nearestward" "ground" "LNearestward$Ground;") (by decide +kernel)) (fun _ h9 => h9) rfl dX11_hullAt_5 ?_
  have hPc := hP.sub (ws' := [(a2, .inr (10, [.ref a12, .ref a13, .ref a14, .ref a15, .ref a16, .int 0, .int 0])), (a6, .inr (12, [.ref a23, .int 0]))]) [1, 2] rfl
  have hDc := hD.sub (ws' := [(a2, .inr (10, [.ref a12, .ref a13, .ref a14, .ref a15, .ref a16, .int 0, .int 0])), (a6, .inr (12, [.ref a23, .int 0]))]) [1, 2] (by decide) rfl
  have hFc := va_free (wc := [(a2, .inr (10, [.ref a12, .ref a13, .ref a14, .ref a15, .ref a16, .int 0, .int 0])), (a6, .inr (12, [.ref a23, .int 0]))]) hD hS hA [1, 2] rfl
  refine va_callv (va_runV (As := [.ref a2]) (rest := []) ⟨hx, hb, hml, hown, hts⟩ (xcX7_findIn l hst dC dI T a6 a2 a12 a13 a14 a15 a16 a23 s.heap.size) (cwV 1 hts ygX11_hullAt_X7_findIn rfl rfl rfl (by decide +kernel) ⟨Nat.le_of_ble_eq_true rfl, Nat.le_of_ble_eq_true rfl⟩) ⟨xBlind, va_recv hK hPc (ci := 12) (q0 := 1) rfl rfl, xCall hK hG hS hPc hDc hFc⟩ rfl rfl hl.1 rfl (lv_room (Nat.le_of_ble_eq_true rfl)) dX11_hullAt_8 ⟨Nat.le_of_ble_eq_true rfl, Nat.le_of_ble_eq_true rfl⟩) hS (fun q _ h => hFc q h) hFc (fun u t H locs ht hvm hw hB hz1 hk1 hS => ?_)
  rcases hB with ⟨hP1, hD1⟩
  rw [ht] at hP1
  obtain ⟨hP, hD⟩ := va_join (wr := [(a1, .inr (16, [.ref a2, .ref a3, .ref a4, .ref a5, .ref a6, .ref a7, .ref a8, .ref a9, .ref a10, .ref a11]))]) (w1 := [(a2, .inr (10, [.ref a12, .ref a13, .ref a14, .ref a15, .ref a16, .int 0, .int 0])), (a6, .inr (12, [.ref a23, .int 0]))]) hP hD [1, 2] [0] rfl rfl (by decide) (by decide) hk1 hFc hP1 hD1
  have hP : va_P (dC, dI) vwCl [(a1, .inr (16, [.ref a2, .ref a3, .ref a4, .ref a5, .ref a6, .ref a7, .ref a8, .ref a9, .ref a10, .ref a11])), (a2, .inr (10, [.ref a12, .ref a13, .ref a14, .ref a15, .ref a16, .int 0, .int 0])), (a6, .inr (12, [.ref a23, .int 0]))] H := hP
  have hD : va_D A [(a1, .inr (16, [.ref a2, .ref a3, .ref a4, .ref a5, .ref a6, .ref a7, .ref a8, .ref a9, .ref a10, .ref a11])), (a2, .inr (10, [.ref a12, .ref a13, .ref a14, .ref a15, .ref a16, .int 0, .int 0])), (a6, .inr (12, [.ref a23, .int 0]))] := hD
  clear hPc hDc hFc hP1 hD1 hk1 hz1 ht hvm
  refine lv_iload_n hx hb dX11_hullAt_11 rfl (lv_at hl 1 rfl) ?_
  refine lv_if_lt (tgt := 38) hx hb dX11_hullAt_12 (by decide) (fun c_2 => ?_) (fun c_2 => ?_)
  · have nc_2 : p1.toInt < 0 := (xi_lt rfl (by decide +kernel)).mp c_2
    obtain ⟨sa, hsa⟩ := hG.2.2.2.2.1 (RX11, 239, "the hull has no such point") (by decide +kernel)
    have hP9 := hP.sub (ws' := []) [] rfl
    have hD9 := hD.sub (ws' := []) [] (by decide) rfl
    exact yThrow (text := "the hull has no such point") (ic := 140) hx hb hst hown (hts (.classLink RX11 136 "java/util/NoSuchElementException") (by decide +kernel)) (hts (.initialized "java/util/NoSuchElementException") (by decide +kernel)) hsa hat_140 (by decide +kernel) hG.1 hG.2.1 hS (by rw [hml]; exact hl.1) 2 dX11_hullAt_38 dX11_hullAt_41 (Or.inl ⟨rfl, dX11_hullAt_42⟩) dX11_hullAt_44 dX11_hullAt_47 (fun x hx => absurd (hex x hx) id) (Nat.le_of_ble_eq_true rfl) (Nat.le_of_ble_eq_true rfl) (Nat.le_of_ble_eq_true rfl) (Nat.le_of_ble_eq_true rfl) hlocks (fun t hvm hz1 hk1 => ⟨(), trivial, ⟨rfl, hP9.kept (fun k x hx => hk1 x.1 ((hP9 k x hx).lt)), hD9⟩, xthrF hS hz1 hk1⟩) hS.2.2 (Nat.le_of_ble_eq_true rfl) (Nat.le_of_ble_eq_true rfl)
  · have nc_2 : ¬ (p1.toInt < 0) := mt (xi_lt rfl (by decide +kernel)).mpr c_2
    refine lv_iload_n hx hb dX11_hullAt_15 rfl (lv_at hl 1 rfl) ?_
    refine lv_aload_n hx hb dX11_hullAt_16 rfl (lv_at hl 0 rfl) ?_
    refine va_get (D := (dC, dI)) (ci := 16) (v := .ref a6) (C := RX11) (T := TX11) (N := 10) hx hb hts hin_X11 hown hK hP 0 rfl rfl 4 (by decide) (hts (.fieldLink RX11 40 "Nearestward" "hull" "LNearestward$Hull;") (by decide +kernel)) (fun _ h9 => h9) rfl dX11_hullAt_17 ?_
    refine va_get (D := (dC, dI)) (ci := 12) (v := .int 0) (C := RX7) (T := TX7) (N := 2) hx hb hts hin_X7 hown hK hP 2 rfl rfl 1 (by decide) (hts (.fieldLink RX11 235 "Nearestward$Hull" "count" "I") (by decide +kernel)) (fun _ h9 => h9) rfl dX11_hullAt_20 ?_
    refine lv_icmp_ge (tgt := 38) hx hb dX11_hullAt_23 (by decide) (fun _ => ?_) (fun c_3 => absurd (show ¬ (0 ≤ p1.toInt) from mt (xi_le (by decide +kernel) rfl).mpr c_3) (by omega))
    obtain ⟨sa, hsa⟩ := hG.2.2.2.2.1 (RX11, 239, "the hull has no such point") (by decide +kernel)
    have hP9 := hP.sub (ws' := []) [] rfl
    have hD9 := hD.sub (ws' := []) [] (by decide) rfl
    exact yThrow (text := "the hull has no such point") (ic := 140) hx hb hst hown (hts (.classLink RX11 136 "java/util/NoSuchElementException") (by decide +kernel)) (hts (.initialized "java/util/NoSuchElementException") (by decide +kernel)) hsa hat_140 (by decide +kernel) hG.1 hG.2.1 hS (by rw [hml]; exact hl.1) 2 dX11_hullAt_38 dX11_hullAt_41 (Or.inl ⟨rfl, dX11_hullAt_42⟩) dX11_hullAt_44 dX11_hullAt_47 (fun x hx => absurd (hex x hx) id) (Nat.le_of_ble_eq_true rfl) (Nat.le_of_ble_eq_true rfl) (Nat.le_of_ble_eq_true rfl) (Nat.le_of_ble_eq_true rfl) hlocks (fun t hvm hz1 hk1 => ⟨(), trivial, ⟨rfl, hP9.kept (fun k x hx => hk1 x.1 ((hP9 k x hx).lt)), hD9⟩, xthrF hS hz1 hk1⟩) hS.2.2 (Nat.le_of_ble_eq_true rfl) (Nat.le_of_ble_eq_true rfl)
set_option maxHeartbeats 4000000 in
set_option maxRecDepth 100000 in
theorem xnL_hullAt (l : Launch) (hst : l.stackTraces = false) (dC : Nat → ClassId) (dI : Nat → Nat → Nat) (T : Nat → ClassId) (a1 : Nat) (a2 : Nat) (a3 : Nat) (a4 : Nat) (a5 : Nat) (a6 : Nat) (a7 : Nat) (a8 : Nat) (a9 : Nat) (a10 : Nat) (a11 : Nat) (a12 : Nat) (a13 : Nat) (a14 : Nat) (a15 : Nat) (a16 : Nat) (a17 : Nat) (a24 : Nat) (sz : Nat) (p1 : Int32) : Met l yL_hullAt zsL_hullAt ({ frames := 7, cells := 1, slots := 6, locals := 109 } : Room) (va_Pc [.ref a1, .int p1, .ref a2] (fun U => xB dC dI T [(a1, .inr (16, [.ref a3, .ref a4, .ref a5, .ref a6, .ref a7, .ref a8, .ref a9, .ref a10, .ref a11, .ref a12])), (a3, .inr (10, [.ref a13, .ref a14, .ref a15, .ref a16, .ref a17, .int 0, .int 0])), (a7, .inr (12, [.ref a24, .int 0]))] sz U)) (va_Qi (fun (r u : Int32) => r = u) (fun (u : Int32) (t : State) => 1 = u ∧ xE dC dI [] (va_A [(a1, .inr (16, [.ref a3, .ref a4, .ref a5, .ref a6, .ref a7, .ref a8, .ref a9, .ref a10, .ref a11, .ref a12])), (a3, .inr (10, [.ref a13, .ref a14, .ref a15, .ref a16, .ref a17, .int 0, .int 0])), (a7, .inr (12, [.ref a24, .int 0]))] sz) t) (va_A [(a1, .inr (16, [.ref a3, .ref a4, .ref a5, .ref a6, .ref a7, .ref a8, .ref a9, .ref a10, .ref a11, .ref a12])), (a3, .inr (10, [.ref a13, .ref a14, .ref a15, .ref a16, .ref a17, .int 0, .int 0])), (a7, .inr (12, [.ref a24, .int 0]))] sz)) 1 6 (va_A [(a1, .inr (16, [.ref a3, .ref a4, .ref a5, .ref a6, .ref a7, .ref a8, .ref a9, .ref a10, .ref a11, .ref a12])), (a3, .inr (10, [.ref a13, .ref a14, .ref a15, .ref a16, .ref a17, .int 0, .int 0])), (a7, .inr (12, [.ref a24, .int 0]))] sz) := by
  refine va_MetW (cc := cL_hullAt) (maxL := 4) (ret := (some .int)) (hh := [(0, 9, 12, 35)]) (by decide +kernel) rfl ?_
  intro p e s m args below meth c s₁ B hml hv
  obtain ⟨rfl, hsz, hP, hK, hD0, hG⟩ := hv
  have hx := B.exec
  have hb := B.bytes
  have hr := B.returns
  have hts := atoms_spec (ws := zsL_hullAt) B.pre
  have hown : s.vm.findClass RL = some m.cls := findClass_of_methodNamed B.named
  have hlocks := B.notSynchronized
  have htab := vx_table (x := yL_hullAt) B (hts (.codeWith yL_hullAt cL_hullAt 4 (some .int) [(0, 9, 12, 35)]) (by decide +kernel))
  subst hsz
  have hD := hD0.self (sz := s.heap.size)
  generalize hAe : va_A [(a1, .inr (16, [.ref a3, .ref a4, .ref a5, .ref a6, .ref a7, .ref a8, .ref a9, .ref a10, .ref a11, .ref a12])), (a3, .inr (10, [.ref a13, .ref a14, .ref a15, .ref a16, .ref a17, .int 0, .int 0])), (a7, .inr (12, [.ref a24, .int 0]))] s.heap.size = A at hD hG ⊢
  have hA : ∀ q : Nat, s.heap.size ≤ q → A q := fun q h => by rw [← hAe]; exact Or.inr h
  have hS : va_S A s.heap s.heap [] := va_S.rf
  have hl := lv_entry ([.ref a1, .int p1, .ref a2]) (n := 4) (Nat.le_of_ble_eq_true rfl)
  rw [lg_entry_eq]
  generalize (lg_sl ([.ref a1, .int p1, .ref a2]) ++ List.replicate (4 - (lg_sl ([.ref a1, .int p1, .ref a2])).length) Slot.unset).toArray = ls at hl ⊢
  have hl : lv_has ls 4 [(0, .ref a1), (1, .int p1), (2, .ref a2)] := hl
  refine lv_aload_n hx hb dL_hullAt_0 rfl (lv_at hl 2 rfl) ?_
  refine lv_iconst (v := 0) hx hb dL_hullAt_1 (by decide) ?_
  refine lv_aload_n hx hb dL_hullAt_2 rfl (lv_at hl 0 rfl) ?_
  refine lv_iload_n hx hb dL_hullAt_3 rfl (lv_at hl 1 rfl) ?_
  have hPc := hP.sub (ws' := [(a1, .inr (16, [.ref a3, .ref a4, .ref a5, .ref a6, .ref a7, .ref a8, .ref a9, .ref a10, .ref a11, .ref a12])), (a3, .inr (10, [.ref a13, .ref a14, .ref a15, .ref a16, .ref a17, .int 0, .int 0])), (a7, .inr (12, [.ref a24, .int 0]))]) [0, 1, 2] rfl
  have hDc := hD.sub (ws' := [(a1, .inr (16, [.ref a3, .ref a4, .ref a5, .ref a6, .ref a7, .ref a8, .ref a9, .ref a10, .ref a11, .ref a12])), (a3, .inr (10, [.ref a13, .ref a14, .ref a15, .ref a16, .ref a17, .int 0, .int 0])), (a7, .inr (12, [.ref a24, .int 0]))]) [0, 1, 2] (by decide) rfl
  have hFc := va_free (wc := [(a1, .inr (16, [.ref a3, .ref a4, .ref a5, .ref a6, .ref a7, .ref a8, .ref a9, .ref a10, .ref a11, .ref a12])), (a3, .inr (10, [.ref a13, .ref a14, .ref a15, .ref a16, .ref a17, .int 0, .int 0])), (a7, .inr (12, [.ref a24, .int 0]))]) hD hS hA [0, 1, 2] rfl
  refine vx_calli (vx_runV (As := [.int p1]) (rest := [.int 0, .ref a2]) ⟨hx, hb, hml, hown, hts⟩ (xnX11_hullAt l hst dC dI T a1 a3 a4 a5 a6 a7 a8 a9 a10 a11 a12 a13 a14 a15 a16 a17 a24 s.heap.size p1) (cwV 1 hts ygL_hullAt_X11_hullAt rfl rfl rfl (by decide +kernel) ⟨Nat.le_of_ble_eq_true rfl, Nat.le_of_ble_eq_true rfl⟩) ⟨xBlind, va_recv hK hPc (ci := 16) (q0 := 0) rfl rfl, xCall hK hG hS hPc hDc hFc⟩ rfl rfl hl.1 rfl (lv_room (Nat.le_of_ble_eq_true rfl)) dL_hullAt_4 ⟨Nat.le_of_ble_eq_true rfl, Nat.le_of_ble_eq_true rfl⟩) hS (fun q _ h => hFc q h) hFc (fun q _ h => hFc q h) (fun E ce q9 u t H locs ht hvm hw hB hz1 hk1 hS hce hcv hcl => ?_) (fun r_9 u t H locs ht hvm hw hB hz1 hk1 hS => ?_)
  · rcases hB with ⟨hE, hP1, hD1⟩
    subst hE
    rw [ht] at hP1
    obtain ⟨hP, hD⟩ := va_join (wr := []) (w1 := []) hP hD [0, 1, 2] [] rfl rfl (by decide) (by decide) hk1 hFc hP1 hD1
    have hP : va_P (dC, dI) vwCl [] H := hP
    have hD : va_D A [] := hD
    clear hPc hDc hFc hP1 hD1 hk1 hz1 ht hvm
    refine vx_catch (E := "java/util/NoSuchElementException") (name := "java/util/NoSuchElementException") hown [] ⟨0, 9, 12, 35⟩ [] (htab.trans rfl) (fun _ h => absurd h List.not_mem_nil) (by decide) (by decide) (hts (.classLink RL 35 "java/util/NoSuchElementException") (by decide +kernel)) (xBad_use hG.2.2.2.1 _ (by decide +kernel)) hce hcv hcl ?_
    refine lv_astore_n (lv' := [(3, .ref q9), (0, .ref a1), (1, .int p1), (2, .ref a2)]) hx hb dL_hullAt_12 rfl hl (by decide) rfl (fun ls hl => ?_)
    refine lv_iconst (v := 1) hx hb dL_hullAt_13 (by decide) ?_
    have hP9 := hP.sub (ws' := []) [] rfl
    have hD9 := hD.sub (ws' := []) [] (by decide) rfl
    exact W.iret (v := 1) hx hb hr (fun t ht hW => ⟨⟨_, _, rfl, rfl, ⟨rfl, by rw [ht]; exact hP9, hD9⟩⟩, hS.F ht⟩) hS.2.2 dL_hullAt_14
  · exact absurd hB id
set_option maxHeartbeats 4000000 in
set_option maxRecDepth 100000 in
theorem xnX11_nearest (l : Launch) (hst : l.stackTraces = false) (dC : Nat → ClassId) (dI : Nat → Nat → Nat) (T : Nat → ClassId) (a1 : Nat) (a2 : Nat) (a3 : Nat) (a4 : Nat) (a5 : Nat) (a6 : Nat) (a7 : Nat) (a8 : Nat) (a9 : Nat) (a10 : Nat) (a11 : Nat) (a12 : Nat) (a13 : Nat) (a14 : Nat) (a15 : Nat) (a16 : Nat) (sz : Nat) (p1 : Int32) (p2 : Int32) (p3 : Int32) : vx_Met l yX11_nearest zsX11_nearest ({ frames := 8, cells := 4, slots := 24, locals := 126 } : Room) (va_Pc [.ref a1, .int p1, .int p2, .int p3] (fun U => xB dC dI T [(a1, .inr (16, [.ref a2, .ref a3, .ref a4, .ref a5, .ref a6, .ref a7, .ref a8, .ref a9, .ref a10, .ref a11])), (a2, .inr (10, [.ref a12, .ref a13, .ref a14, .ref a15, .ref a16, .int 0, .int 0]))] sz U)) (va_Qi (fun (r u : Int32) => r = u) (fun (u : Int32) (t : State) => False) (va_A [(a1, .inr (16, [.ref a2, .ref a3, .ref a4, .ref a5, .ref a6, .ref a7, .ref a8, .ref a9, .ref a10, .ref a11])), (a2, .inr (10, [.ref a12, .ref a13, .ref a14, .ref a15, .ref a16, .int 0, .int 0]))] sz)) (vx_X (fun _ : Unit => True) (fun (E : String) (_ : Unit) (t : State) => ((((¬ (p1.toInt = 101)) ∧ (¬ (p1.toInt = 115)) ∧ (¬ (p1.toInt = 109)) ∧ (¬ (p1.toInt = 112))) ∨ (((p1.toInt = 101) ∨ ((¬ (p1.toInt = 101)) ∧ (p1.toInt = 115)) ∨ ((¬ (p1.toInt = 101)) ∧ (¬ (p1.toInt = 115)) ∧ (p1.toInt = 109)) ∨ ((¬ (p1.toInt = 101)) ∧ (¬ (p1.toInt = 115)) ∧ (¬ (p1.toInt = 109)) ∧ (p1.toInt = 112))) ∧ (((p2.toInt < -999) ∨ ((¬ (p2.toInt < -999)) ∧ (¬ (p2.toInt ≤ 999)))) ∨ (((¬ (p2.toInt < -999)) ∧ (p2.toInt ≤ 999)) ∧ ((p3.toInt < -999) ∨ ((¬ (p3.toInt < -999)) ∧ (¬ (p3.toInt ≤ 999)))))))) ∧ E = "java/lang/IllegalArgumentException" ∧ xE dC dI [] (va_A [(a1, .inr (16, [.ref a2, .ref a3, .ref a4, .ref a5, .ref a6, .ref a7, .ref a8, .ref a9, .ref a10, .ref a11])), (a2, .inr (10, [.ref a12, .ref a13, .ref a14, .ref a15, .ref a16, .int 0, .int 0]))] sz) t) ∨ ((((p1.toInt = 101) ∨ ((¬ (p1.toInt = 101)) ∧ (p1.toInt = 115)) ∨ ((¬ (p1.toInt = 101)) ∧ (¬ (p1.toInt = 115)) ∧ (p1.toInt = 109)) ∨ ((¬ (p1.toInt = 101)) ∧ (¬ (p1.toInt = 115)) ∧ (¬ (p1.toInt = 109)) ∧ (p1.toInt = 112))) ∧ (((¬ (p2.toInt < -999)) ∧ (p2.toInt ≤ 999)) ∧ ((¬ (p3.toInt < -999)) ∧ (p3.toInt ≤ 999)))) ∧ E = "java/util/NoSuchElementException" ∧ xE dC dI [] (va_A [(a1, .inr (16, [.ref a2, .ref a3, .ref a4, .ref a5, .ref a6, .ref a7, .ref a8, .ref a9, .ref a10, .ref a11])), (a2, .inr (10, [.ref a12, .ref a13, .ref a14, .ref a15, .ref a16, .int 0, .int 0]))] sz) t)) (va_A [(a1, .inr (16, [.ref a2, .ref a3, .ref a4, .ref a5, .ref a6, .ref a7, .ref a8, .ref a9, .ref a10, .ref a11])), (a2, .inr (10, [.ref a12, .ref a13, .ref a14, .ref a15, .ref a16, .int 0, .int 0]))] sz)) 4 24 (va_A [(a1, .inr (16, [.ref a2, .ref a3, .ref a4, .ref a5, .ref a6, .ref a7, .ref a8, .ref a9, .ref a10, .ref a11])), (a2, .inr (10, [.ref a12, .ref a13, .ref a14, .ref a15, .ref a16, .int 0, .int 0]))] sz) := by
  refine vx_ofW (cc := cX11_nearest) (maxL := 4) (ret := (some .int)) (by decide +kernel) rfl ?_
  intro p e s m args below meth c s₁ B hml hex hv
  obtain ⟨rfl, hsz, hP, hK, hD0, hG⟩ := hv
  have hx := B.exec
  have hb := B.bytes
  have hr := B.returns
  have hts := atoms_spec (ws := zsX11_nearest) B.pre
  have hown : s.vm.findClass RX11 = some m.cls := findClass_of_methodNamed B.named
  have hlocks := B.notSynchronized
  subst hsz
  have hD := hD0.self (sz := s.heap.size)
  generalize hAe : va_A [(a1, .inr (16, [.ref a2, .ref a3, .ref a4, .ref a5, .ref a6, .ref a7, .ref a8, .ref a9, .ref a10, .ref a11])), (a2, .inr (10, [.ref a12, .ref a13, .ref a14, .ref a15, .ref a16, .int 0, .int 0]))] s.heap.size = A at hD hG ⊢
  have hA : ∀ q : Nat, s.heap.size ≤ q → A q := fun q h => by rw [← hAe]; exact Or.inr h
  have hS : va_S A s.heap s.heap [] := va_S.rf
  have hl := lv_entry ([.ref a1, .int p1, .int p2, .int p3]) (n := 4) (Nat.le_of_ble_eq_true rfl)
  rw [lg_entry_eq]
  generalize (lg_sl ([.ref a1, .int p1, .int p2, .int p3]) ++ List.replicate (4 - (lg_sl ([.ref a1, .int p1, .int p2, .int p3])).length) Slot.unset).toArray = ls at hl ⊢
  have hl : lv_has ls 4 [(0, .ref a1), (1, .int p1), (2, .int p2), (3, .int p3)] := hl
  refine lv_iload_n hx hb dX11_nearest_0 rfl (lv_at hl 1 rfl) ?_
  have hPc := hP.sub (ws' := []) [] rfl
  have hDc := hD.sub (ws' := []) [] (by decide) rfl
  have hFc := va_free (wc := []) hD hS hA [] rfl
  refine vx_callv (vx_runS (As := [.int p1]) (rest := []) ⟨hx, hb, hml, hown, hts⟩ (xcX11_needKind l hst dC dI T s.heap.size p1) (cwS 1 hts ygX11_nearest_X11_needKind rfl rfl rfl (by decide +kernel) ⟨Nat.le_of_ble_eq_true rfl, Nat.le_of_ble_eq_true rfl⟩) ⟨xBlind, xCall hK hG hS hPc hDc hFc⟩ rfl rfl hl.1 rfl (lv_room (Nat.le_of_ble_eq_true rfl)) dX11_nearest_1 ⟨Nat.le_of_ble_eq_true rfl, Nat.le_of_ble_eq_true rfl⟩) hS (fun q _ h => hFc q h) hFc (fun q _ h => hFc q h) (fun E ce q9 u t H locs ht hvm hw hB hz1 hk1 hS hce hcv hcl => ?_) (fun u t H locs ht hvm hw hB hz1 hk1 hS => ?_)
  · rcases hB with ⟨c_1, hE, hP1, hD1⟩
    subst hE
    rw [ht] at hP1
    obtain ⟨hP, hD⟩ := va_join (wr := [(a1, .inr (16, [.ref a2, .ref a3, .ref a4, .ref a5, .ref a6, .ref a7, .ref a8, .ref a9, .ref a10, .ref a11])), (a2, .inr (10, [.ref a12, .ref a13, .ref a14, .ref a15, .ref a16, .int 0, .int 0]))]) (w1 := []) hP hD [] [0, 1] rfl rfl (by decide) (by decide) hk1 hFc hP1 hD1
    have hP : va_P (dC, dI) vwCl [(a1, .inr (16, [.ref a2, .ref a3, .ref a4, .ref a5, .ref a6, .ref a7, .ref a8, .ref a9, .ref a10, .ref a11])), (a2, .inr (10, [.ref a12, .ref a13, .ref a14, .ref a15, .ref a16, .int 0, .int 0]))] H := hP
    have hD : va_D A [(a1, .inr (16, [.ref a2, .ref a3, .ref a4, .ref a5, .ref a6, .ref a7, .ref a8, .ref a9, .ref a10, .ref a11])), (a2, .inr (10, [.ref a12, .ref a13, .ref a14, .ref a15, .ref a16, .int 0, .int 0]))] := hD
    clear hPc hDc hFc hP1 hD1 hk1 hz1 ht hvm
    have hP9 := hP.sub (ws' := []) [] rfl
    have hD9 := hD.sub (ws' := []) [] (by decide) rfl
    exact vx_out (fun x hx => absurd (hex x hx) id) hlocks hce hcv hcl (fun t ht _ => ⟨(), trivial, (Or.inl ⟨(Or.inl c_1), rfl, by rw [ht]; exact hP9, hD9⟩), hS.F ht⟩) hS.2.2 (Nat.le_of_ble_eq_true rfl) (Nat.le_of_ble_eq_true rfl)
  · rcases hB with ⟨c_2, hP1, hD1⟩
    rw [ht] at hP1
    obtain ⟨hP, hD⟩ := va_join (wr := [(a1, .inr (16, [.ref a2, .ref a3, .ref a4, .ref a5, .ref a6, .ref a7, .ref a8, .ref a9, .ref a10, .ref a11])), (a2, .inr (10, [.ref a12, .ref a13, .ref a14, .ref a15, .ref a16, .int 0, .int 0]))]) (w1 := []) hP hD [] [0, 1] rfl rfl (by decide) (by decide) hk1 hFc hP1 hD1
    have hP : va_P (dC, dI) vwCl [(a1, .inr (16, [.ref a2, .ref a3, .ref a4, .ref a5, .ref a6, .ref a7, .ref a8, .ref a9, .ref a10, .ref a11])), (a2, .inr (10, [.ref a12, .ref a13, .ref a14, .ref a15, .ref a16, .int 0, .int 0]))] H := hP
    have hD : va_D A [(a1, .inr (16, [.ref a2, .ref a3, .ref a4, .ref a5, .ref a6, .ref a7, .ref a8, .ref a9, .ref a10, .ref a11])), (a2, .inr (10, [.ref a12, .ref a13, .ref a14, .ref a15, .ref a16, .int 0, .int 0]))] := hD
    clear hPc hDc hFc hP1 hD1 hk1 hz1 ht hvm
    refine lv_iload_n hx hb dX11_nearest_4 rfl (lv_at hl 2 rfl) ?_
    refine lv_iload_n hx hb dX11_nearest_5 rfl (lv_at hl 3 rfl) ?_
    refine lv_sipush (v := 999) hx hb dX11_nearest_6 (by decide) ?_
    have hPc := hP.sub (ws' := []) [] rfl
    have hDc := hD.sub (ws' := []) [] (by decide) rfl
    have hFc := va_free (wc := []) hD hS hA [] rfl
    refine vx_callv (vx_runS (As := [.int p2, .int p3, .int 999]) (rest := []) ⟨hx, hb, hml, hown, hts⟩ (xcX11_needBoth_v2 l hst dC dI T H.size p2 p3) (cwS 3 hts ygX11_nearest_X11_needBoth rfl rfl rfl (by decide +kernel) ⟨Nat.le_of_ble_eq_true rfl, Nat.le_of_ble_eq_true rfl⟩) ⟨xBlind, xCall hK hG hS hPc hDc hFc⟩ rfl rfl hl.1 rfl (lv_room (Nat.le_of_ble_eq_true rfl)) dX11_nearest_9 ⟨Nat.le_of_ble_eq_true rfl, Nat.le_of_ble_eq_true rfl⟩) hS (fun q _ h => hFc q h) hFc (fun q _ h => hFc q h) (fun E ce q9 u t H locs ht hvm hw hB hz1 hk1 hS hce hcv hcl => ?_) (fun u t H locs ht hvm hw hB hz1 hk1 hS => ?_)
    · rcases hB with ⟨c_3, hE, hP1, hD1⟩
      subst hE
      rw [ht] at hP1
      obtain ⟨hP, hD⟩ := va_join (wr := [(a1, .inr (16, [.ref a2, .ref a3, .ref a4, .ref a5, .ref a6, .ref a7, .ref a8, .ref a9, .ref a10, .ref a11])), (a2, .inr (10, [.ref a12, .ref a13, .ref a14, .ref a15, .ref a16, .int 0, .int 0]))]) (w1 := []) hP hD [] [0, 1] rfl rfl (by decide) (by decide) hk1 hFc hP1 hD1
      have hP : va_P (dC, dI) vwCl [(a1, .inr (16, [.ref a2, .ref a3, .ref a4, .ref a5, .ref a6, .ref a7, .ref a8, .ref a9, .ref a10, .ref a11])), (a2, .inr (10, [.ref a12, .ref a13, .ref a14, .ref a15, .ref a16, .int 0, .int 0]))] H := hP
      have hD : va_D A [(a1, .inr (16, [.ref a2, .ref a3, .ref a4, .ref a5, .ref a6, .ref a7, .ref a8, .ref a9, .ref a10, .ref a11])), (a2, .inr (10, [.ref a12, .ref a13, .ref a14, .ref a15, .ref a16, .int 0, .int 0]))] := hD
      clear hPc hDc hFc hP1 hD1 hk1 hz1 ht hvm
      have hP9 := hP.sub (ws' := []) [] rfl
      have hD9 := hD.sub (ws' := []) [] (by decide) rfl
      exact vx_out (fun x hx => absurd (hex x hx) id) hlocks hce hcv hcl (fun t ht _ => ⟨(), trivial, (Or.inl ⟨(Or.inr (⟨c_2, c_3⟩)), rfl, by rw [ht]; exact hP9, hD9⟩), hS.F ht⟩) hS.2.2 (Nat.le_of_ble_eq_true rfl) (Nat.le_of_ble_eq_true rfl)
    · rcases hB with ⟨c_4, hP1, hD1⟩
      rw [ht] at hP1
      obtain ⟨hP, hD⟩ := va_join (wr := [(a1, .inr (16, [.ref a2, .ref a3, .ref a4, .ref a5, .ref a6, .ref a7, .ref a8, .ref a9, .ref a10, .ref a11])), (a2, .inr (10, [.ref a12, .ref a13, .ref a14, .ref a15, .ref a16, .int 0, .int 0]))]) (w1 := []) hP hD [] [0, 1] rfl rfl (by decide) (by decide) hk1 hFc hP1 hD1
      have hP : va_P (dC, dI) vwCl [(a1, .inr (16, [.ref a2, .ref a3, .ref a4, .ref a5, .ref a6, .ref a7, .ref a8, .ref a9, .ref a10, .ref a11])), (a2, .inr (10, [.ref a12, .ref a13, .ref a14, .ref a15, .ref a16, .int 0, .int 0]))] H := hP
      have hD : va_D A [(a1, .inr (16, [.ref a2, .ref a3, .ref a4, .ref a5, .ref a6, .ref a7, .ref a8, .ref a9, .ref a10, .ref a11])), (a2, .inr (10, [.ref a12, .ref a13, .ref a14, .ref a15, .ref a16, .int 0, .int 0]))] := hD
      clear hPc hDc hFc hP1 hD1 hk1 hz1 ht hvm
      refine lv_aload_n hx hb dX11_nearest_12 rfl (lv_at hl 0 rfl) ?_
      have hPc := hP.sub (ws' := [(a1, .inr (16, [.ref a2, .ref a3, .ref a4, .ref a5, .ref a6, .ref a7, .ref a8, .ref a9, .ref a10, .ref a11])), (a2, .inr (10, [.ref a12, .ref a13, .ref a14, .ref a15, .ref a16, .int 0, .int 0]))]) [0, 1] rfl
      have hDc := hD.sub (ws' := [(a1, .inr (16, [.ref a2, .ref a3, .ref a4, .ref a5, .ref a6, .ref a7, .ref a8, .ref a9, .ref a10, .ref a11])), (a2, .inr (10, [.ref a12, .ref a13, .ref a14, .ref a15, .ref a16, .int 0, .int 0]))]) [0, 1] (by decide) rfl
      have hFc := va_free (wc := [(a1, .inr (16, [.ref a2, .ref a3, .ref a4, .ref a5, .ref a6, .ref a7, .ref a8, .ref a9, .ref a10, .ref a11])), (a2, .inr (10, [.ref a12, .ref a13, .ref a14, .ref a15, .ref a16, .int 0, .int 0]))]) hD hS hA [0, 1] rfl
      refine vx_callv (vx_runV (As := []) (rest := []) ⟨hx, hb, hml, hown, hts⟩ (xnX11_needSomePoint l hst dC dI T a1 a2 a3 a4 a5 a6 a7 a8 a9 a10 a11 a12 a13 a14 a15 a16 H.size) (cwV 0 hts ygX11_nearest_X11_needSomePoint rfl rfl rfl (by decide +kernel) ⟨Nat.le_of_ble_eq_true rfl, Nat.le_of_ble_eq_true rfl⟩) ⟨xBlind, va_recv hK hPc (ci := 16) (q0 := 0) rfl rfl, xCall hK hG hS hPc hDc hFc⟩ rfl rfl hl.1 rfl (lv_room (Nat.le_of_ble_eq_true rfl)) dX11_nearest_13 ⟨Nat.le_of_ble_eq_true rfl, Nat.le_of_ble_eq_true rfl⟩) hS (fun q _ h => hFc q h) hFc (fun q _ h => hFc q h) (fun E ce q9 u t H locs ht hvm hw hB hz1 hk1 hS hce hcv hcl => ?_) (fun u t H locs ht hvm hw hB hz1 hk1 hS => ?_)
      · rcases hB with ⟨hE, hP1, hD1⟩
        subst hE
        rw [ht] at hP1
        obtain ⟨hP, hD⟩ := va_join (wr := []) (w1 := [(a1, .inr (16, [.ref a2, .ref a3, .ref a4, .ref a5, .ref a6, .ref a7, .ref a8, .ref a9, .ref a10, .ref a11])), (a2, .inr (10, [.ref a12, .ref a13, .ref a14, .ref a15, .ref a16, .int 0, .int 0]))]) hP hD [0, 1] [] rfl rfl (by decide) (by decide) hk1 hFc hP1 hD1
        have hP : va_P (dC, dI) vwCl [(a1, .inr (16, [.ref a2, .ref a3, .ref a4, .ref a5, .ref a6, .ref a7, .ref a8, .ref a9, .ref a10, .ref a11])), (a2, .inr (10, [.ref a12, .ref a13, .ref a14, .ref a15, .ref a16, .int 0, .int 0]))] H := hP
        have hD : va_D A [(a1, .inr (16, [.ref a2, .ref a3, .ref a4, .ref a5, .ref a6, .ref a7, .ref a8, .ref a9, .ref a10, .ref a11])), (a2, .inr (10, [.ref a12, .ref a13, .ref a14, .ref a15, .ref a16, .int 0, .int 0]))] := hD
        clear hPc hDc hFc hP1 hD1 hk1 hz1 ht hvm
        have hP9 := hP.sub (ws' := []) [] rfl
        have hD9 := hD.sub (ws' := []) [] (by decide) rfl
        exact vx_out (fun x hx => absurd (hex x hx) id) hlocks hce hcv hcl (fun t ht _ => ⟨(), trivial, (Or.inr (⟨⟨c_2, c_4⟩, rfl, by rw [ht]; exact hP9, hD9⟩)), hS.F ht⟩) hS.2.2 (Nat.le_of_ble_eq_true rfl) (Nat.le_of_ble_eq_true rfl)
      · exact absurd hB id
set_option maxHeartbeats 4000000 in
set_option maxRecDepth 100000 in
theorem xnL_nearest (l : Launch) (hst : l.stackTraces = false) (dC : Nat → ClassId) (dI : Nat → Nat → Nat) (T : Nat → ClassId) (a1 : Nat) (a2 : Nat) (a3 : Nat) (a4 : Nat) (a5 : Nat) (a6 : Nat) (a7 : Nat) (a8 : Nat) (a9 : Nat) (a10 : Nat) (a11 : Nat) (a12 : Nat) (a13 : Nat) (a14 : Nat) (a15 : Nat) (a16 : Nat) (a17 : Nat) (sz : Nat) (p1 : Int32) (p2 : Int32) (p3 : Int32) : Met l yL_nearest zsL_nearest ({ frames := 9, cells := 4, slots := 24, locals := 149 } : Room) (va_Pc [.ref a1, .int p1, .int p2, .int p3, .ref a2] (fun U => xB dC dI T [(a1, .inr (16, [.ref a3, .ref a4, .ref a5, .ref a6, .ref a7, .ref a8, .ref a9, .ref a10, .ref a11, .ref a12])), (a3, .inr (10, [.ref a13, .ref a14, .ref a15, .ref a16, .ref a17, .int 0, .int 0]))] sz U)) (va_Qi (fun (r u : Int32) => r = u) (fun (u : Int32) (t : State) => ((((¬ (p1.toInt = 101)) ∧ (¬ (p1.toInt = 115)) ∧ (¬ (p1.toInt = 109)) ∧ (¬ (p1.toInt = 112))) ∨ (((p1.toInt = 101) ∨ ((¬ (p1.toInt = 101)) ∧ (p1.toInt = 115)) ∨ ((¬ (p1.toInt = 101)) ∧ (¬ (p1.toInt = 115)) ∧ (p1.toInt = 109)) ∨ ((¬ (p1.toInt = 101)) ∧ (¬ (p1.toInt = 115)) ∧ (¬ (p1.toInt = 109)) ∧ (p1.toInt = 112))) ∧ (((p2.toInt < -999) ∨ ((¬ (p2.toInt < -999)) ∧ (¬ (p2.toInt ≤ 999)))) ∨ (((¬ (p2.toInt < -999)) ∧ (p2.toInt ≤ 999)) ∧ ((p3.toInt < -999) ∨ ((¬ (p3.toInt < -999)) ∧ (¬ (p3.toInt ≤ 999)))))))) ∧ 1 = u ∧ xE dC dI [] (va_A [(a1, .inr (16, [.ref a3, .ref a4, .ref a5, .ref a6, .ref a7, .ref a8, .ref a9, .ref a10, .ref a11, .ref a12])), (a3, .inr (10, [.ref a13, .ref a14, .ref a15, .ref a16, .ref a17, .int 0, .int 0]))] sz) t) ∨ ((((p1.toInt = 101) ∨ ((¬ (p1.toInt = 101)) ∧ (p1.toInt = 115)) ∨ ((¬ (p1.toInt = 101)) ∧ (¬ (p1.toInt = 115)) ∧ (p1.toInt = 109)) ∨ ((¬ (p1.toInt = 101)) ∧ (¬ (p1.toInt = 115)) ∧ (¬ (p1.toInt = 109)) ∧ (p1.toInt = 112))) ∧ (((¬ (p2.toInt < -999)) ∧ (p2.toInt ≤ 999)) ∧ ((¬ (p3.toInt < -999)) ∧ (p3.toInt ≤ 999)))) ∧ 2 = u ∧ xE dC dI [] (va_A [(a1, .inr (16, [.ref a3, .ref a4, .ref a5, .ref a6, .ref a7, .ref a8, .ref a9, .ref a10, .ref a11, .ref a12])), (a3, .inr (10, [.ref a13, .ref a14, .ref a15, .ref a16, .ref a17, .int 0, .int 0]))] sz) t)) (va_A [(a1, .inr (16, [.ref a3, .ref a4, .ref a5, .ref a6, .ref a7, .ref a8, .ref a9, .ref a10, .ref a11, .ref a12])), (a3, .inr (10, [.ref a13, .ref a14, .ref a15, .ref a16, .ref a17, .int 0, .int 0]))] sz)) 4 24 (va_A [(a1, .inr (16, [.ref a3, .ref a4, .ref a5, .ref a6, .ref a7, .ref a8, .ref a9, .ref a10, .ref a11, .ref a12])), (a3, .inr (10, [.ref a13, .ref a14, .ref a15, .ref a16, .ref a17, .int 0, .int 0]))] sz) := by
  refine va_MetW (cc := cL_nearest) (maxL := 6) (ret := (some .int)) (hh := [(0, 12, 15, 13), (0, 12, 19, 35)]) (by decide +kernel) rfl ?_
  intro p e s m args below meth c s₁ B hml hv
  obtain ⟨rfl, hsz, hP, hK, hD0, hG⟩ := hv
  have hx := B.exec
  have hb := B.bytes
  have hr := B.returns
  have hts := atoms_spec (ws := zsL_nearest) B.pre
  have hown : s.vm.findClass RL = some m.cls := findClass_of_methodNamed B.named
  have hlocks := B.notSynchronized
  have htab := vx_table (x := yL_nearest) B (hts (.codeWith yL_nearest cL_nearest 6 (some .int) [(0, 12, 15, 13), (0, 12, 19, 35)]) (by decide +kernel))
  subst hsz
  have hD := hD0.self (sz := s.heap.size)
  generalize hAe : va_A [(a1, .inr (16, [.ref a3, .ref a4, .ref a5, .ref a6, .ref a7, .ref a8, .ref a9, .ref a10, .ref a11, .ref a12])), (a3, .inr (10, [.ref a13, .ref a14, .ref a15, .ref a16, .ref a17, .int 0, .int 0]))] s.heap.size = A at hD hG ⊢
  have hA : ∀ q : Nat, s.heap.size ≤ q → A q := fun q h => by rw [← hAe]; exact Or.inr h
  have hS : va_S A s.heap s.heap [] := va_S.rf
  have hl := lv_entry ([.ref a1, .int p1, .int p2, .int p3, .ref a2]) (n := 6) (Nat.le_of_ble_eq_true rfl)
  rw [lg_entry_eq]
  generalize (lg_sl ([.ref a1, .int p1, .int p2, .int p3, .ref a2]) ++ List.replicate (6 - (lg_sl ([.ref a1, .int p1, .int p2, .int p3, .ref a2])).length) Slot.unset).toArray = ls at hl ⊢
  have hl : lv_has ls 6 [(0, .ref a1), (1, .int p1), (2, .int p2), (3, .int p3), (4, .ref a2)] := hl
  refine lv_aload hx hb dL_nearest_0 (lv_at hl 4 rfl) ?_
  refine lv_iconst (v := 0) hx hb dL_nearest_2 (by decide) ?_
  refine lv_aload_n hx hb dL_nearest_3 rfl (lv_at hl 0 rfl) ?_
  refine lv_iload_n hx hb dL_nearest_4 rfl (lv_at hl 1 rfl) ?_
  refine lv_iload_n hx hb dL_nearest_5 rfl (lv_at hl 2 rfl) ?_
  refine lv_iload_n hx hb dL_nearest_6 rfl (lv_at hl 3 rfl) ?_
  have hPc := hP.sub (ws' := [(a1, .inr (16, [.ref a3, .ref a4, .ref a5, .ref a6, .ref a7, .ref a8, .ref a9, .ref a10, .ref a11, .ref a12])), (a3, .inr (10, [.ref a13, .ref a14, .ref a15, .ref a16, .ref a17, .int 0, .int 0]))]) [0, 1] rfl
  have hDc := hD.sub (ws' := [(a1, .inr (16, [.ref a3, .ref a4, .ref a5, .ref a6, .ref a7, .ref a8, .ref a9, .ref a10, .ref a11, .ref a12])), (a3, .inr (10, [.ref a13, .ref a14, .ref a15, .ref a16, .ref a17, .int 0, .int 0]))]) [0, 1] (by decide) rfl
  have hFc := va_free (wc := [(a1, .inr (16, [.ref a3, .ref a4, .ref a5, .ref a6, .ref a7, .ref a8, .ref a9, .ref a10, .ref a11, .ref a12])), (a3, .inr (10, [.ref a13, .ref a14, .ref a15, .ref a16, .ref a17, .int 0, .int 0]))]) hD hS hA [0, 1] rfl
  refine vx_calli (vx_runV (As := [.int p1, .int p2, .int p3]) (rest := [.int 0, .ref a2]) ⟨hx, hb, hml, hown, hts⟩ (xnX11_nearest l hst dC dI T a1 a3 a4 a5 a6 a7 a8 a9 a10 a11 a12 a13 a14 a15 a16 a17 s.heap.size p1 p2 p3) (cwV 3 hts ygL_nearest_X11_nearest rfl rfl rfl (by decide +kernel) ⟨Nat.le_of_ble_eq_true rfl, Nat.le_of_ble_eq_true rfl⟩) ⟨xBlind, va_recv hK hPc (ci := 16) (q0 := 0) rfl rfl, xCall hK hG hS hPc hDc hFc⟩ rfl rfl hl.1 rfl (lv_room (Nat.le_of_ble_eq_true rfl)) dL_nearest_7 ⟨Nat.le_of_ble_eq_true rfl, Nat.le_of_ble_eq_true rfl⟩) hS (fun q _ h => hFc q h) hFc (fun q _ h => hFc q h) (fun E ce q9 u t H locs ht hvm hw hB hz1 hk1 hS hce hcv hcl => ?_) (fun r_9 u t H locs ht hvm hw hB hz1 hk1 hS => ?_)
  · rcases hB with ⟨c_1, hE, hP1, hD1⟩ | ⟨c_2, hE, hP1, hD1⟩
    · subst hE
      rw [ht] at hP1
      obtain ⟨hP, hD⟩ := va_join (wr := []) (w1 := []) hP hD [0, 1] [] rfl rfl (by decide) (by decide) hk1 hFc hP1 hD1
      have hP : va_P (dC, dI) vwCl [] H := hP
      have hD : va_D A [] := hD
      clear hPc hDc hFc hP1 hD1 hk1 hz1 ht hvm
      refine vx_catch (E := "java/lang/IllegalArgumentException") (name := "java/lang/IllegalArgumentException") hown [] ⟨0, 12, 15, 13⟩ [⟨0, 12, 19, 35⟩] (htab.trans rfl) (fun _ h => absurd h List.not_mem_nil) (by decide) (by decide) (hts (.classLink RL 13 "java/lang/IllegalArgumentException") (by decide +kernel)) (xBad_use hG.2.2.2.1 _ (by decide +kernel)) hce hcv hcl ?_
      refine lv_astore (lv' := [(5, .ref q9), (0, .ref a1), (1, .int p1), (2, .int p2), (3, .int p3), (4, .ref a2)]) hx hb dL_nearest_15 hl (by decide) rfl (fun ls hl => ?_)
      refine lv_iconst (v := 1) hx hb dL_nearest_17 (by decide) ?_
      have hP9 := hP.sub (ws' := []) [] rfl
      have hD9 := hD.sub (ws' := []) [] (by decide) rfl
      exact W.iret (v := 1) hx hb hr (fun t ht hW => ⟨⟨_, _, rfl, rfl, (Or.inl ⟨c_1, rfl, by rw [ht]; exact hP9, hD9⟩)⟩, hS.F ht⟩) hS.2.2 dL_nearest_18
    · subst hE
      rw [ht] at hP1
      obtain ⟨hP, hD⟩ := va_join (wr := []) (w1 := []) hP hD [0, 1] [] rfl rfl (by decide) (by decide) hk1 hFc hP1 hD1
      have hP : va_P (dC, dI) vwCl [] H := hP
      have hD : va_D A [] := hD
      clear hPc hDc hFc hP1 hD1 hk1 hz1 ht hvm
      refine vx_catch (E := "java/util/NoSuchElementException") (name := "java/util/NoSuchElementException") hown [⟨0, 12, 15, 13⟩] ⟨0, 12, 19, 35⟩ [] (htab.trans rfl) (List.forall_mem_cons.mpr ⟨(Or.inr ⟨by decide, "java/lang/IllegalArgumentException", hts (.classLink RL 13 "java/lang/IllegalArgumentException") (by decide +kernel), (hG.2.2.2.2.2.2.2.2.2.2.2.2.1 ("java/util/NoSuchElementException", "java/lang/IllegalArgumentException") (List.mem_of_getElem? (i := 10) rfl))⟩), (fun _ h => absurd h List.not_mem_nil)⟩) (by decide) (by decide) (hts (.classLink RL 35 "java/util/NoSuchElementException") (by decide +kernel)) (xBad_use hG.2.2.2.1 _ (by decide +kernel)) hce hcv hcl ?_
      refine lv_astore (lv' := [(5, .ref q9), (0, .ref a1), (1, .int p1), (2, .int p2), (3, .int p3), (4, .ref a2)]) hx hb dL_nearest_19 hl (by decide) rfl (fun ls hl => ?_)
      refine lv_iconst (v := 2) hx hb dL_nearest_21 (by decide) ?_
      have hP9 := hP.sub (ws' := []) [] rfl
      have hD9 := hD.sub (ws' := []) [] (by decide) rfl
      exact W.iret (v := 2) hx hb hr (fun t ht hW => ⟨⟨_, _, rfl, rfl, (Or.inr (⟨c_2, rfl, by rw [ht]; exact hP9, hD9⟩))⟩, hS.F ht⟩) hS.2.2 dL_nearest_22
  · exact absurd hB id
set_option maxHeartbeats 4000000 in
set_option maxRecDepth 100000 in
theorem xnX11_nearestAt (l : Launch) (hst : l.stackTraces = false) (dC : Nat → ClassId) (dI : Nat → Nat → Nat) (T : Nat → ClassId) (a1 : Nat) (a2 : Nat) (a3 : Nat) (a4 : Nat) (a5 : Nat) (a6 : Nat) (a7 : Nat) (a8 : Nat) (a9 : Nat) (a10 : Nat) (a11 : Nat) (a12 : Nat) (a13 : Nat) (a14 : Nat) (a15 : Nat) (a16 : Nat) (sz : Nat) (p1 : Int32) (p2 : Int32) (p3 : Int32) (p4 : Int32) : vx_Met l yX11_nearestAt zsX11_nearestAt ({ frames := 8, cells := 4, slots := 24, locals := 126 } : Room) (va_Pc [.ref a1, .int p1, .int p2, .int p3, .int p4] (fun U => xB dC dI T [(a1, .inr (16, [.ref a2, .ref a3, .ref a4, .ref a5, .ref a6, .ref a7, .ref a8, .ref a9, .ref a10, .ref a11])), (a2, .inr (10, [.ref a12, .ref a13, .ref a14, .ref a15, .ref a16, .int 0, .int 0]))] sz U)) (va_Qi (fun (r u : Int32) => r = u) (fun (u : Int32) (t : State) => False) (va_A [(a1, .inr (16, [.ref a2, .ref a3, .ref a4, .ref a5, .ref a6, .ref a7, .ref a8, .ref a9, .ref a10, .ref a11])), (a2, .inr (10, [.ref a12, .ref a13, .ref a14, .ref a15, .ref a16, .int 0, .int 0]))] sz)) (vx_X (fun _ : Unit => True) (fun (E : String) (_ : Unit) (t : State) => ((((¬ (p1.toInt = 101)) ∧ (¬ (p1.toInt = 115)) ∧ (¬ (p1.toInt = 109)) ∧ (¬ (p1.toInt = 112))) ∨ (((p1.toInt = 101) ∨ ((¬ (p1.toInt = 101)) ∧ (p1.toInt = 115)) ∨ ((¬ (p1.toInt = 101)) ∧ (¬ (p1.toInt = 115)) ∧ (p1.toInt = 109)) ∨ ((¬ (p1.toInt = 101)) ∧ (¬ (p1.toInt = 115)) ∧ (¬ (p1.toInt = 109)) ∧ (p1.toInt = 112))) ∧ (((p2.toInt < -999) ∨ ((¬ (p2.toInt < -999)) ∧ (¬ (p2.toInt ≤ 999)))) ∨ (((¬ (p2.toInt < -999)) ∧ (p2.toInt ≤ 999)) ∧ ((p3.toInt < -999) ∨ ((¬ (p3.toInt < -999)) ∧ (¬ (p3.toInt ≤ 999)))))))) ∧ E = "java/lang/IllegalArgumentException" ∧ xE dC dI [] (va_A [(a1, .inr (16, [.ref a2, .ref a3, .ref a4, .ref a5, .ref a6, .ref a7, .ref a8, .ref a9, .ref a10, .ref a11])), (a2, .inr (10, [.ref a12, .ref a13, .ref a14, .ref a15, .ref a16, .int 0, .int 0]))] sz) t) ∨ ((((p1.toInt = 101) ∨ ((¬ (p1.toInt = 101)) ∧ (p1.toInt = 115)) ∨ ((¬ (p1.toInt = 101)) ∧ (¬ (p1.toInt = 115)) ∧ (p1.toInt = 109)) ∨ ((¬ (p1.toInt = 101)) ∧ (¬ (p1.toInt = 115)) ∧ (¬ (p1.toInt = 109)) ∧ (p1.toInt = 112))) ∧ (((¬ (p2.toInt < -999)) ∧ (p2.toInt ≤ 999)) ∧ ((¬ (p3.toInt < -999)) ∧ (p3.toInt ≤ 999)))) ∧ E = "java/util/NoSuchElementException" ∧ xE dC dI [] (va_A [(a1, .inr (16, [.ref a2, .ref a3, .ref a4, .ref a5, .ref a6, .ref a7, .ref a8, .ref a9, .ref a10, .ref a11])), (a2, .inr (10, [.ref a12, .ref a13, .ref a14, .ref a15, .ref a16, .int 0, .int 0]))] sz) t)) (va_A [(a1, .inr (16, [.ref a2, .ref a3, .ref a4, .ref a5, .ref a6, .ref a7, .ref a8, .ref a9, .ref a10, .ref a11])), (a2, .inr (10, [.ref a12, .ref a13, .ref a14, .ref a15, .ref a16, .int 0, .int 0]))] sz)) 4 24 (va_A [(a1, .inr (16, [.ref a2, .ref a3, .ref a4, .ref a5, .ref a6, .ref a7, .ref a8, .ref a9, .ref a10, .ref a11])), (a2, .inr (10, [.ref a12, .ref a13, .ref a14, .ref a15, .ref a16, .int 0, .int 0]))] sz) := by
  refine vx_ofW (cc := cX11_nearestAt) (maxL := 6) (ret := (some .int)) (by decide +kernel) rfl ?_
  intro p e s m args below meth c s₁ B hml hex hv
  obtain ⟨rfl, hsz, hP, hK, hD0, hG⟩ := hv
  have hx := B.exec
  have hb := B.bytes
  have hr := B.returns
  have hts := atoms_spec (ws := zsX11_nearestAt) B.pre
  have hown : s.vm.findClass RX11 = some m.cls := findClass_of_methodNamed B.named
  have hlocks := B.notSynchronized
  have hin_X11 : ∀ w ∈ wsX110, w ∈ zsX11_nearestAt := by decide +kernel
  have hm_140 : ∀ w ∈ (yAt RX11 140).filter goodWord, w ∈ zsX11_nearestAt := by decide +kernel
  have hat_140 : ∀ w ∈ yAt RX11 140, w.before (#[.ref a1, .int p1, .int p2, .int p3, .int p4] : Array Value) s = true := vx_hat (B := xBad) (fun w hw => hts w (hm_140 w hw)) (by decide +kernel) (xBad_use hG.2.2.2.1)
  subst hsz
  have hD := hD0.self (sz := s.heap.size)
  generalize hAe : va_A [(a1, .inr (16, [.ref a2, .ref a3, .ref a4, .ref a5, .ref a6, .ref a7, .ref a8, .ref a9, .ref a10, .ref a11])), (a2, .inr (10, [.ref a12, .ref a13, .ref a14, .ref a15, .ref a16, .int 0, .int 0]))] s.heap.size = A at hD hG ⊢
  have hA : ∀ q : Nat, s.heap.size ≤ q → A q := fun q h => by rw [← hAe]; exact Or.inr h
  have hS : va_S A s.heap s.heap [] := va_S.rf
  have hl := lv_entry ([.ref a1, .int p1, .int p2, .int p3, .int p4]) (n := 6) (Nat.le_of_ble_eq_true rfl)
  rw [lg_entry_eq]
  generalize (lg_sl ([.ref a1, .int p1, .int p2, .int p3, .int p4]) ++ List.replicate (6 - (lg_sl ([.ref a1, .int p1, .int p2, .int p3, .int p4])).length) Slot.unset).toArray = ls at hl ⊢
  have hl : lv_has ls 6 [(0, .ref a1), (1, .int p1), (2, .int p2), (3, .int p3), (4, .int p4)] := hl
  refine lv_iload_n hx hb dX11_nearestAt_0 rfl (lv_at hl 1 rfl) ?_
  have hPc := hP.sub (ws' := []) [] rfl
  have hDc := hD.sub (ws' := []) [] (by decide) rfl
  have hFc := va_free (wc := []) hD hS hA [] rfl
  refine vx_callv (vx_runS (As := [.int p1]) (rest := []) ⟨hx, hb, hml, hown, hts⟩ (xcX11_needKind l hst dC dI T s.heap.size p1) (cwS 1 hts ygX11_nearestAt_X11_needKind rfl rfl rfl (by decide +kernel) ⟨Nat.le_of_ble_eq_true rfl, Nat.le_of_ble_eq_true rfl⟩) ⟨xBlind, xCall hK hG hS hPc hDc hFc⟩ rfl rfl hl.1 rfl (lv_room (Nat.le_of_ble_eq_true rfl)) dX11_nearestAt_1 ⟨Nat.le_of_ble_eq_true rfl, Nat.le_of_ble_eq_true rfl⟩) hS (fun q _ h => hFc q h) hFc (fun q _ h => hFc q h) (fun E ce q9 u t H locs ht hvm hw hB hz1 hk1 hS hce hcv hcl => ?_) (fun u t H locs ht hvm hw hB hz1 hk1 hS => ?_)
  · rcases hB with ⟨c_1, hE, hP1, hD1⟩
    subst hE
    rw [ht] at hP1
    obtain ⟨hP, hD⟩ := va_join (wr := [(a1, .inr (16, [.ref a2, .ref a3, .ref a4, .ref a5, .ref a6, .ref a7, .ref a8, .ref a9, .ref a10, .ref a11])), (a2, .inr (10, [.ref a12, .ref a13, .ref a14, .ref a15, .ref a16, .int 0, .int 0]))]) (w1 := []) hP hD [] [0, 1] rfl rfl (by decide) (by decide) hk1 hFc hP1 hD1
    have hP : va_P (dC, dI) vwCl [(a1, .inr (16, [.ref a2, .ref a3, .ref a4, .ref a5, .ref a6, .ref a7, .ref a8, .ref a9, .ref a10, .ref a11])), (a2, .inr (10, [.ref a12, .ref a13, .ref a14, .ref a15, .ref a16, .int 0, .int 0]))] H := hP
    have hD : va_D A [(a1, .inr (16, [.ref a2, .ref a3, .ref a4, .ref a5, .ref a6, .ref a7, .ref a8, .ref a9, .ref a10, .ref a11])), (a2, .inr (10, [.ref a12, .ref a13, .ref a14, .ref a15, .ref a16, .int 0, .int 0]))] := hD
    clear hPc hDc hFc hP1 hD1 hk1 hz1 ht hvm
    have hP9 := hP.sub (ws' := []) [] rfl
    have hD9 := hD.sub (ws' := []) [] (by decide) rfl
    exact vx_out (fun x hx => absurd (hex x hx) id) hlocks hce hcv hcl (fun t ht _ => ⟨(), trivial, (Or.inl ⟨(Or.inl c_1), rfl, by rw [ht]; exact hP9, hD9⟩), hS.F ht⟩) hS.2.2 (Nat.le_of_ble_eq_true rfl) (Nat.le_of_ble_eq_true rfl)
  · rcases hB with ⟨c_2, hP1, hD1⟩
    rw [ht] at hP1
    obtain ⟨hP, hD⟩ := va_join (wr := [(a1, .inr (16, [.ref a2, .ref a3, .ref a4, .ref a5, .ref a6, .ref a7, .ref a8, .ref a9, .ref a10, .ref a11])), (a2, .inr (10, [.ref a12, .ref a13, .ref a14, .ref a15, .ref a16, .int 0, .int 0]))]) (w1 := []) hP hD [] [0, 1] rfl rfl (by decide) (by decide) hk1 hFc hP1 hD1
    have hP : va_P (dC, dI) vwCl [(a1, .inr (16, [.ref a2, .ref a3, .ref a4, .ref a5, .ref a6, .ref a7, .ref a8, .ref a9, .ref a10, .ref a11])), (a2, .inr (10, [.ref a12, .ref a13, .ref a14, .ref a15, .ref a16, .int 0, .int 0]))] H := hP
    have hD : va_D A [(a1, .inr (16, [.ref a2, .ref a3, .ref a4, .ref a5, .ref a6, .ref a7, .ref a8, .ref a9, .ref a10, .ref a11])), (a2, .inr (10, [.ref a12, .ref a13, .ref a14, .ref a15, .ref a16, .int 0, .int 0]))] := hD
    clear hPc hDc hFc hP1 hD1 hk1 hz1 ht hvm
    refine lv_iload_n hx hb dX11_nearestAt_4 rfl (lv_at hl 2 rfl) ?_
    refine lv_iload_n hx hb dX11_nearestAt_5 rfl (lv_at hl 3 rfl) ?_
    refine lv_sipush (v := 999) hx hb dX11_nearestAt_6 (by decide) ?_
    have hPc := hP.sub (ws' := []) [] rfl
    have hDc := hD.sub (ws' := []) [] (by decide) rfl
    have hFc := va_free (wc := []) hD hS hA [] rfl
    refine vx_callv (vx_runS (As := [.int p2, .int p3, .int 999]) (rest := []) ⟨hx, hb, hml, hown, hts⟩ (xcX11_needBoth_v2 l hst dC dI T H.size p2 p3) (cwS 3 hts ygX11_nearestAt_X11_needBoth rfl rfl rfl (by decide +kernel) ⟨Nat.le_of_ble_eq_true rfl, Nat.le_of_ble_eq_true rfl⟩) ⟨xBlind, xCall hK hG hS hPc hDc hFc⟩ rfl rfl hl.1 rfl (lv_room (Nat.le_of_ble_eq_true rfl)) dX11_nearestAt_9 ⟨Nat.le_of_ble_eq_true rfl, Nat.le_of_ble_eq_true rfl⟩) hS (fun q _ h => hFc q h) hFc (fun q _ h => hFc q h) (fun E ce q9 u t H locs ht hvm hw hB hz1 hk1 hS hce hcv hcl => ?_) (fun u t H locs ht hvm hw hB hz1 hk1 hS => ?_)
    · rcases hB with ⟨c_3, hE, hP1, hD1⟩
      subst hE
      rw [ht] at hP1
      obtain ⟨hP, hD⟩ := va_join (wr := [(a1, .inr (16, [.ref a2, .ref a3, .ref a4, .ref a5, .ref a6, .ref a7, .ref a8, .ref a9, .ref a10, .ref a11])), (a2, .inr (10, [.ref a12, .ref a13, .ref a14, .ref a15, .ref a16, .int 0, .int 0]))]) (w1 := []) hP hD [] [0, 1] rfl rfl (by decide) (by decide) hk1 hFc hP1 hD1
      have hP : va_P (dC, dI) vwCl [(a1, .inr (16, [.ref a2, .ref a3, .ref a4, .ref a5, .ref a6, .ref a7, .ref a8, .ref a9, .ref a10, .ref a11])), (a2, .inr (10, [.ref a12, .ref a13, .ref a14, .ref a15, .ref a16, .int 0, .int 0]))] H := hP
      have hD : va_D A [(a1, .inr (16, [.ref a2, .ref a3, .ref a4, .ref a5, .ref a6, .ref a7, .ref a8, .ref a9, .ref a10, .ref a11])), (a2, .inr (10, [.ref a12, .ref a13, .ref a14, .ref a15, .ref a16, .int 0, .int 0]))] := hD
      clear hPc hDc hFc hP1 hD1 hk1 hz1 ht hvm
      have hP9 := hP.sub (ws' := []) [] rfl
      have hD9 := hD.sub (ws' := []) [] (by decide) rfl
      exact vx_out (fun x hx => absurd (hex x hx) id) hlocks hce hcv hcl (fun t ht _ => ⟨(), trivial, (Or.inl ⟨(Or.inr (⟨c_2, c_3⟩)), rfl, by rw [ht]; exact hP9, hD9⟩), hS.F ht⟩) hS.2.2 (Nat.le_of_ble_eq_true rfl) (Nat.le_of_ble_eq_true rfl)
    · rcases hB with ⟨c_4, hP1, hD1⟩
      rw [ht] at hP1
      obtain ⟨hP, hD⟩ := va_join (wr := [(a1, .inr (16, [.ref a2, .ref a3, .ref a4, .ref a5, .ref a6, .ref a7, .ref a8, .ref a9, .ref a10, .ref a11])), (a2, .inr (10, [.ref a12, .ref a13, .ref a14, .ref a15, .ref a16, .int 0, .int 0]))]) (w1 := []) hP hD [] [0, 1] rfl rfl (by decide) (by decide) hk1 hFc hP1 hD1
      have hP : va_P (dC, dI) vwCl [(a1, .inr (16, [.ref a2, .ref a3, .ref a4, .ref a5, .ref a6, .ref a7, .ref a8, .ref a9, .ref a10, .ref a11])), (a2, .inr (10, [.ref a12, .ref a13, .ref a14, .ref a15, .ref a16, .int 0, .int 0]))] H := hP
      have hD : va_D A [(a1, .inr (16, [.ref a2, .ref a3, .ref a4, .ref a5, .ref a6, .ref a7, .ref a8, .ref a9, .ref a10, .ref a11])), (a2, .inr (10, [.ref a12, .ref a13, .ref a14, .ref a15, .ref a16, .int 0, .int 0]))] := hD
      clear hPc hDc hFc hP1 hD1 hk1 hz1 ht hvm
      refine lv_iconst (v := 0) hx hb dX11_nearestAt_12 (by decide) ?_
      refine lv_istore (lv' := [(5, .int 0), (0, .ref a1), (1, .int p1), (2, .int p2), (3, .int p3), (4, .int p4)]) hx hb dX11_nearestAt_13 hl (by decide) rfl (fun ls hl => ?_)
      refine xLoop (P := fun i_k_5 H locs ls => va_P (dC, dI) vwCl [(a1, .inr (16, [.ref a2, .ref a3, .ref a4, .ref a5, .ref a6, .ref a7, .ref a8, .ref a9, .ref a10, .ref a11])), (a2, .inr (10, [.ref a12, .ref a13, .ref a14, .ref a15, .ref a16, .int 0, .int 0]))] H ∧ va_D A [(a1, .inr (16, [.ref a2, .ref a3, .ref a4, .ref a5, .ref a6, .ref a7, .ref a8, .ref a9, .ref a10, .ref a11])), (a2, .inr (10, [.ref a12, .ref a13, .ref a14, .ref a15, .ref a16, .int 0, .int 0]))] ∧ va_S A s.heap H locs ∧ lv_has ls 6 [(5, .int (nI i_k_5)), (0, .ref a1), (1, .int p1), (2, .int p2), (3, .int p3), (4, .int p4)]) (N := 12) (fun i_k_5 H locs ls hi_k_5 hI ih_k_5 => ?_) (0) _ _ _ (by omega) ⟨hP, hD, hS, lv_sub hl [0, 1, 2, 3, 4, 5] rfl⟩
      obtain ⟨hP, hD, hS, hl⟩ := hI
      refine lv_iload hx hb dX11_nearestAt_15 (lv_at hl 0 rfl) ?_
      refine lv_bipush (v := 12) hx hb dX11_nearestAt_17 (by decide) ?_
      have hz_7 : (nI i_k_5).toInt = ((i_k_5 : Nat) : Int) := nI_toInt (by omega)
      refine lv_icmp_ge (tgt := 60) hx hb dX11_nearestAt_19 (by decide) (fun c_6 => ?_) (fun c_6 => ?_)
      · have nc_6 : 12 ≤ (nI i_k_5).toInt := (xi_le (by decide +kernel) rfl).mp c_6
        obtain ⟨sa, hsa⟩ := hG.2.2.2.2.1 (RX11, 170, "there is none with this index") (by decide +kernel)
        have hP9 := hP.sub (ws' := []) [] rfl
        have hD9 := hD.sub (ws' := []) [] (by decide) rfl
        exact yThrow (text := "there is none with this index") (ic := 140) hx hb hst hown (hts (.classLink RX11 136 "java/util/NoSuchElementException") (by decide +kernel)) (hts (.initialized "java/util/NoSuchElementException") (by decide +kernel)) hsa hat_140 (by decide +kernel) hG.1 hG.2.1 hS (by rw [hml]; exact hl.1) 2 dX11_nearestAt_60 dX11_nearestAt_63 (Or.inl ⟨rfl, dX11_nearestAt_64⟩) dX11_nearestAt_66 dX11_nearestAt_69 (fun x hx => absurd (hex x hx) id) (Nat.le_of_ble_eq_true rfl) (Nat.le_of_ble_eq_true rfl) (Nat.le_of_ble_eq_true rfl) (Nat.le_of_ble_eq_true rfl) hlocks (fun t hvm hz1 hk1 => ⟨(), trivial, (Or.inr (⟨⟨c_2, c_4⟩, rfl, hP9.kept (fun k x hx => hk1 x.1 ((hP9 k x hx).lt)), hD9⟩)), xthrF hS hz1 hk1⟩) hS.2.2 (Nat.le_of_ble_eq_true rfl) (Nat.le_of_ble_eq_true rfl)
      · have nc_6 : ¬ (12 ≤ (nI i_k_5).toInt) := mt (xi_le (by decide +kernel) rfl).mpr c_6
        refine lv_aload_n hx hb dX11_nearestAt_22 rfl (lv_at hl 1 rfl) ?_
        refine va_get (D := (dC, dI)) (ci := 16) (v := .ref a2) (C := RX11) (T := TX11) (N := 10) hx hb hts hin_X11 hown hK hP 0 rfl rfl 0 (by decide) (hts (.fieldLink RX11 12 "Nearestward" "ground" "LNearestward$Ground;") (by decide +kernel)) (fun _ h9 => h9) rfl dX11_nearestAt_23 ?_
        refine lv_iload hx hb dX11_nearestAt_26 (lv_at hl 0 rfl) ?_
        have hPc := hP.sub (ws' := [(a2, .inr (10, [.ref a12, .ref a13, .ref a14, .ref a15, .ref a16, .int 0, .int 0]))]) [1] rfl
        have hDc := hD.sub (ws' := [(a2, .inr (10, [.ref a12, .ref a13, .ref a14, .ref a15, .ref a16, .int 0, .int 0]))]) [1] (by decide) rfl
        have hFc := va_free (wc := [(a2, .inr (10, [.ref a12, .ref a13, .ref a14, .ref a15, .ref a16, .int 0, .int 0]))]) hD hS hA [1] rfl
        refine va_calli (va_runV (As := [.int (nI i_k_5)]) (rest := []) ⟨hx, hb, hml, hown, hts⟩ (xcX5_has l hst dC dI T a2 a12 a13 a14 a15 a16 H.size (nI i_k_5)) (cwV 1 hts ygX11_nearestAt_X5_has rfl rfl rfl (by decide +kernel) ⟨Nat.le_of_ble_eq_true rfl, Nat.le_of_ble_eq_true rfl⟩) ⟨xBlind, va_recv hK hPc (ci := 10) (q0 := 0) rfl rfl, xCall hK hG hS hPc hDc hFc⟩ rfl rfl hl.1 rfl (lv_room (Nat.le_of_ble_eq_true rfl)) dX11_nearestAt_28 ⟨Nat.le_of_ble_eq_true rfl, Nat.le_of_ble_eq_true rfl⟩) hS (fun q _ h => hFc q h) hFc (fun r_9 u t H locs ht hvm hw hB hz1 hk1 hS => ?_)
        subst hw
        rcases hB with ⟨hr_9, hP1, hD1⟩
        rw [ht] at hP1
        subst hr_9
        obtain ⟨hP, hD⟩ := va_join (wr := [(a1, .inr (16, [.ref a2, .ref a3, .ref a4, .ref a5, .ref a6, .ref a7, .ref a8, .ref a9, .ref a10, .ref a11]))]) (w1 := [(a2, .inr (10, [.ref a12, .ref a13, .ref a14, .ref a15, .ref a16, .int 0, .int 0]))]) hP hD [1] [0] rfl rfl (by decide) (by decide) hk1 hFc hP1 hD1
        have hP : va_P (dC, dI) vwCl [(a1, .inr (16, [.ref a2, .ref a3, .ref a4, .ref a5, .ref a6, .ref a7, .ref a8, .ref a9, .ref a10, .ref a11])), (a2, .inr (10, [.ref a12, .ref a13, .ref a14, .ref a15, .ref a16, .int 0, .int 0]))] H := hP
        have hD : va_D A [(a1, .inr (16, [.ref a2, .ref a3, .ref a4, .ref a5, .ref a6, .ref a7, .ref a8, .ref a9, .ref a10, .ref a11])), (a2, .inr (10, [.ref a12, .ref a13, .ref a14, .ref a15, .ref a16, .int 0, .int 0]))] := hD
        clear hPc hDc hFc hP1 hD1 hk1 hz1 ht hvm
        refine lv_if_eq (tgt := 54) hx hb dX11_nearestAt_31 (by decide) (fun c_9 => ?_) (fun c_9 => absurd (by decide) c_9)
        refine lv_iinc (v := (nI (i_k_5 + 1))) (lv' := [(5, .int (nI (i_k_5 + 1))), (0, .ref a1), (1, .int p1), (2, .int p2), (3, .int p3), (4, .int p4)]) hx hb dX11_nearestAt_54 hl (k := 0) rfl (nI_1 _) (by decide) rfl (fun ls hl => ?_)
        refine lv_goto (tgt := 15) hx hb dX11_nearestAt_57 (by decide) ?_
        exact ih_k_5 _ _ _ (by omega) ⟨hP, hD, hS, lv_sub hl [0, 1, 2, 3, 4, 5] rfl⟩
set_option maxHeartbeats 4000000 in
set_option maxRecDepth 100000 in
theorem xnL_nearestAt (l : Launch) (hst : l.stackTraces = false) (dC : Nat → ClassId) (dI : Nat → Nat → Nat) (T : Nat → ClassId) (a1 : Nat) (a2 : Nat) (a3 : Nat) (a4 : Nat) (a5 : Nat) (a6 : Nat) (a7 : Nat) (a8 : Nat) (a9 : Nat) (a10 : Nat) (a11 : Nat) (a12 : Nat) (a13 : Nat) (a14 : Nat) (a15 : Nat) (a16 : Nat) (a17 : Nat) (sz : Nat) (p1 : Int32) (p2 : Int32) (p3 : Int32) (p4 : Int32) : Met l yL_nearestAt zsL_nearestAt ({ frames := 9, cells := 4, slots := 24, locals := 151 } : Room) (va_Pc [.ref a1, .int p1, .int p2, .int p3, .int p4, .ref a2] (fun U => xB dC dI T [(a1, .inr (16, [.ref a3, .ref a4, .ref a5, .ref a6, .ref a7, .ref a8, .ref a9, .ref a10, .ref a11, .ref a12])), (a3, .inr (10, [.ref a13, .ref a14, .ref a15, .ref a16, .ref a17, .int 0, .int 0]))] sz U)) (va_Qi (fun (r u : Int32) => r = u) (fun (u : Int32) (t : State) => ((((¬ (p1.toInt = 101)) ∧ (¬ (p1.toInt = 115)) ∧ (¬ (p1.toInt = 109)) ∧ (¬ (p1.toInt = 112))) ∨ (((p1.toInt = 101) ∨ ((¬ (p1.toInt = 101)) ∧ (p1.toInt = 115)) ∨ ((¬ (p1.toInt = 101)) ∧ (¬ (p1.toInt = 115)) ∧ (p1.toInt = 109)) ∨ ((¬ (p1.toInt = 101)) ∧ (¬ (p1.toInt = 115)) ∧ (¬ (p1.toInt = 109)) ∧ (p1.toInt = 112))) ∧ (((p2.toInt < -999) ∨ ((¬ (p2.toInt < -999)) ∧ (¬ (p2.toInt ≤ 999)))) ∨ (((¬ (p2.toInt < -999)) ∧ (p2.toInt ≤ 999)) ∧ ((p3.toInt < -999) ∨ ((¬ (p3.toInt < -999)) ∧ (¬ (p3.toInt ≤ 999)))))))) ∧ 1 = u ∧ xE dC dI [] (va_A [(a1, .inr (16, [.ref a3, .ref a4, .ref a5, .ref a6, .ref a7, .ref a8, .ref a9, .ref a10, .ref a11, .ref a12])), (a3, .inr (10, [.ref a13, .ref a14, .ref a15, .ref a16, .ref a17, .int 0, .int 0]))] sz) t) ∨ ((((p1.toInt = 101) ∨ ((¬ (p1.toInt = 101)) ∧ (p1.toInt = 115)) ∨ ((¬ (p1.toInt = 101)) ∧ (¬ (p1.toInt = 115)) ∧ (p1.toInt = 109)) ∨ ((¬ (p1.toInt = 101)) ∧ (¬ (p1.toInt = 115)) ∧ (¬ (p1.toInt = 109)) ∧ (p1.toInt = 112))) ∧ (((¬ (p2.toInt < -999)) ∧ (p2.toInt ≤ 999)) ∧ ((¬ (p3.toInt < -999)) ∧ (p3.toInt ≤ 999)))) ∧ 2 = u ∧ xE dC dI [] (va_A [(a1, .inr (16, [.ref a3, .ref a4, .ref a5, .ref a6, .ref a7, .ref a8, .ref a9, .ref a10, .ref a11, .ref a12])), (a3, .inr (10, [.ref a13, .ref a14, .ref a15, .ref a16, .ref a17, .int 0, .int 0]))] sz) t)) (va_A [(a1, .inr (16, [.ref a3, .ref a4, .ref a5, .ref a6, .ref a7, .ref a8, .ref a9, .ref a10, .ref a11, .ref a12])), (a3, .inr (10, [.ref a13, .ref a14, .ref a15, .ref a16, .ref a17, .int 0, .int 0]))] sz)) 4 24 (va_A [(a1, .inr (16, [.ref a3, .ref a4, .ref a5, .ref a6, .ref a7, .ref a8, .ref a9, .ref a10, .ref a11, .ref a12])), (a3, .inr (10, [.ref a13, .ref a14, .ref a15, .ref a16, .ref a17, .int 0, .int 0]))] sz) := by
  refine va_MetW (cc := cL_nearestAt) (maxL := 7) (ret := (some .int)) (hh := [(0, 14, 17, 13), (0, 14, 21, 35)]) (by decide +kernel) rfl ?_
  intro p e s m args below meth c s₁ B hml hv
  obtain ⟨rfl, hsz, hP, hK, hD0, hG⟩ := hv
  have hx := B.exec
  have hb := B.bytes
  have hr := B.returns
  have hts := atoms_spec (ws := zsL_nearestAt) B.pre
  have hown : s.vm.findClass RL = some m.cls := findClass_of_methodNamed B.named
  have hlocks := B.notSynchronized
  have htab := vx_table (x := yL_nearestAt) B (hts (.codeWith yL_nearestAt cL_nearestAt 7 (some .int) [(0, 14, 17, 13), (0, 14, 21, 35)]) (by decide +kernel))
  subst hsz
  have hD := hD0.self (sz := s.heap.size)
  generalize hAe : va_A [(a1, .inr (16, [.ref a3, .ref a4, .ref a5, .ref a6, .ref a7, .ref a8, .ref a9, .ref a10, .ref a11, .ref a12])), (a3, .inr (10, [.ref a13, .ref a14, .ref a15, .ref a16, .ref a17, .int 0, .int 0]))] s.heap.size = A at hD hG ⊢
  have hA : ∀ q : Nat, s.heap.size ≤ q → A q := fun q h => by rw [← hAe]; exact Or.inr h
  have hS : va_S A s.heap s.heap [] := va_S.rf
  have hl := lv_entry ([.ref a1, .int p1, .int p2, .int p3, .int p4, .ref a2]) (n := 7) (Nat.le_of_ble_eq_true rfl)
  rw [lg_entry_eq]
  generalize (lg_sl ([.ref a1, .int p1, .int p2, .int p3, .int p4, .ref a2]) ++ List.replicate (7 - (lg_sl ([.ref a1, .int p1, .int p2, .int p3, .int p4, .ref a2])).length) Slot.unset).toArray = ls at hl ⊢
  have hl : lv_has ls 7 [(0, .ref a1), (1, .int p1), (2, .int p2), (3, .int p3), (4, .int p4), (5, .ref a2)] := hl
  refine lv_aload hx hb dL_nearestAt_0 (lv_at hl 5 rfl) ?_
  refine lv_iconst (v := 0) hx hb dL_nearestAt_2 (by decide) ?_
  refine lv_aload_n hx hb dL_nearestAt_3 rfl (lv_at hl 0 rfl) ?_
  refine lv_iload_n hx hb dL_nearestAt_4 rfl (lv_at hl 1 rfl) ?_
  refine lv_iload_n hx hb dL_nearestAt_5 rfl (lv_at hl 2 rfl) ?_
  refine lv_iload_n hx hb dL_nearestAt_6 rfl (lv_at hl 3 rfl) ?_
  refine lv_iload hx hb dL_nearestAt_7 (lv_at hl 4 rfl) ?_
  have hPc := hP.sub (ws' := [(a1, .inr (16, [.ref a3, .ref a4, .ref a5, .ref a6, .ref a7, .ref a8, .ref a9, .ref a10, .ref a11, .ref a12])), (a3, .inr (10, [.ref a13, .ref a14, .ref a15, .ref a16, .ref a17, .int 0, .int 0]))]) [0, 1] rfl
  have hDc := hD.sub (ws' := [(a1, .inr (16, [.ref a3, .ref a4, .ref a5, .ref a6, .ref a7, .ref a8, .ref a9, .ref a10, .ref a11, .ref a12])), (a3, .inr (10, [.ref a13, .ref a14, .ref a15, .ref a16, .ref a17, .int 0, .int 0]))]) [0, 1] (by decide) rfl
  have hFc := va_free (wc := [(a1, .inr (16, [.ref a3, .ref a4, .ref a5, .ref a6, .ref a7, .ref a8, .ref a9, .ref a10, .ref a11, .ref a12])), (a3, .inr (10, [.ref a13, .ref a14, .ref a15, .ref a16, .ref a17, .int 0, .int 0]))]) hD hS hA [0, 1] rfl
  refine vx_calli (vx_runV (As := [.int p1, .int p2, .int p3, .int p4]) (rest := [.int 0, .ref a2]) ⟨hx, hb, hml, hown, hts⟩ (xnX11_nearestAt l hst dC dI T a1 a3 a4 a5 a6 a7 a8 a9 a10 a11 a12 a13 a14 a15 a16 a17 s.heap.size p1 p2 p3 p4) (cwV 4 hts ygL_nearestAt_X11_nearestAt rfl rfl rfl (by decide +kernel) ⟨Nat.le_of_ble_eq_true rfl, Nat.le_of_ble_eq_true rfl⟩) ⟨xBlind, va_recv hK hPc (ci := 16) (q0 := 0) rfl rfl, xCall hK hG hS hPc hDc hFc⟩ rfl rfl hl.1 rfl (lv_room (Nat.le_of_ble_eq_true rfl)) dL_nearestAt_9 ⟨Nat.le_of_ble_eq_true rfl, Nat.le_of_ble_eq_true rfl⟩) hS (fun q _ h => hFc q h) hFc (fun q _ h => hFc q h) (fun E ce q9 u t H locs ht hvm hw hB hz1 hk1 hS hce hcv hcl => ?_) (fun r_9 u t H locs ht hvm hw hB hz1 hk1 hS => ?_)
  · rcases hB with ⟨c_1, hE, hP1, hD1⟩ | ⟨c_2, hE, hP1, hD1⟩
    · subst hE
      rw [ht] at hP1
      obtain ⟨hP, hD⟩ := va_join (wr := []) (w1 := []) hP hD [0, 1] [] rfl rfl (by decide) (by decide) hk1 hFc hP1 hD1
      have hP : va_P (dC, dI) vwCl [] H := hP
      have hD : va_D A [] := hD
      clear hPc hDc hFc hP1 hD1 hk1 hz1 ht hvm
      refine vx_catch (E := "java/lang/IllegalArgumentException") (name := "java/lang/IllegalArgumentException") hown [] ⟨0, 14, 17, 13⟩ [⟨0, 14, 21, 35⟩] (htab.trans rfl) (fun _ h => absurd h List.not_mem_nil) (by decide) (by decide) (hts (.classLink RL 13 "java/lang/IllegalArgumentException") (by decide +kernel)) (xBad_use hG.2.2.2.1 _ (by decide +kernel)) hce hcv hcl ?_
      refine lv_astore (lv' := [(6, .ref q9), (0, .ref a1), (1, .int p1), (2, .int p2), (3, .int p3), (4, .int p4), (5, .ref a2)]) hx hb dL_nearestAt_17 hl (by decide) rfl (fun ls hl => ?_)
      refine lv_iconst (v := 1) hx hb dL_nearestAt_19 (by decide) ?_
      have hP9 := hP.sub (ws' := []) [] rfl
      have hD9 := hD.sub (ws' := []) [] (by decide) rfl
      exact W.iret (v := 1) hx hb hr (fun t ht hW => ⟨⟨_, _, rfl, rfl, (Or.inl ⟨c_1, rfl, by rw [ht]; exact hP9, hD9⟩)⟩, hS.F ht⟩) hS.2.2 dL_nearestAt_20
    · subst hE
      rw [ht] at hP1
      obtain ⟨hP, hD⟩ := va_join (wr := []) (w1 := []) hP hD [0, 1] [] rfl rfl (by decide) (by decide) hk1 hFc hP1 hD1
      have hP : va_P (dC, dI) vwCl [] H := hP
      have hD : va_D A [] := hD
      clear hPc hDc hFc hP1 hD1 hk1 hz1 ht hvm
      refine vx_catch (E := "java/util/NoSuchElementException") (name := "java/util/NoSuchElementException") hown [⟨0, 14, 17, 13⟩] ⟨0, 14, 21, 35⟩ [] (htab.trans rfl) (List.forall_mem_cons.mpr ⟨(Or.inr ⟨by decide, "java/lang/IllegalArgumentException", hts (.classLink RL 13 "java/lang/IllegalArgumentException") (by decide +kernel), (hG.2.2.2.2.2.2.2.2.2.2.2.2.1 ("java/util/NoSuchElementException", "java/lang/IllegalArgumentException") (List.mem_of_getElem? (i := 10) rfl))⟩), (fun _ h => absurd h List.not_mem_nil)⟩) (by decide) (by decide) (hts (.classLink RL 35 "java/util/NoSuchElementException") (by decide +kernel)) (xBad_use hG.2.2.2.1 _ (by decide +kernel)) hce hcv hcl ?_
      refine lv_astore (lv' := [(6, .ref q9), (0, .ref a1), (1, .int p1), (2, .int p2), (3, .int p3), (4, .int p4), (5, .ref a2)]) hx hb dL_nearestAt_21 hl (by decide) rfl (fun ls hl => ?_)
      refine lv_iconst (v := 2) hx hb dL_nearestAt_23 (by decide) ?_
      have hP9 := hP.sub (ws' := []) [] rfl
      have hD9 := hD.sub (ws' := []) [] (by decide) rfl
      exact W.iret (v := 2) hx hb hr (fun t ht hW => ⟨⟨_, _, rfl, rfl, (Or.inr (⟨c_2, rfl, by rw [ht]; exact hP9, hD9⟩))⟩, hS.F ht⟩) hS.2.2 dL_nearestAt_24
  · exact absurd hB id
set_option maxHeartbeats 4000000 in
set_option maxRecDepth 100000 in
theorem xnX11_nearness (l : Launch) (hst : l.stackTraces = false) (dC : Nat → ClassId) (dI : Nat → Nat → Nat) (T : Nat → ClassId) (a1 : Nat) (a2 : Nat) (a3 : Nat) (a4 : Nat) (a5 : Nat) (a6 : Nat) (a7 : Nat) (a8 : Nat) (a9 : Nat) (a10 : Nat) (a11 : Nat) (a12 : Nat) (a13 : Nat) (a14 : Nat) (a15 : Nat) (a16 : Nat) (sz : Nat) (p1 : Int32) (p2 : Int32) (p3 : Int32) : vx_Met l yX11_nearness zsX11_nearness ({ frames := 8, cells := 4, slots := 24, locals := 126 } : Room) (va_Pc [.ref a1, .int p1, .int p2, .int p3] (fun U => xB dC dI T [(a1, .inr (16, [.ref a2, .ref a3, .ref a4, .ref a5, .ref a6, .ref a7, .ref a8, .ref a9, .ref a10, .ref a11])), (a2, .inr (10, [.ref a12, .ref a13, .ref a14, .ref a15, .ref a16, .int 0, .int 0]))] sz U)) (va_Qi (fun (r u : Int32) => r = u) (fun (u : Int32) (t : State) => False) (va_A [(a1, .inr (16, [.ref a2, .ref a3, .ref a4, .ref a5, .ref a6, .ref a7, .ref a8, .ref a9, .ref a10, .ref a11])), (a2, .inr (10, [.ref a12, .ref a13, .ref a14, .ref a15, .ref a16, .int 0, .int 0]))] sz)) (vx_X (fun _ : Unit => True) (fun (E : String) (_ : Unit) (t : State) => ((((¬ (p1.toInt = 101)) ∧ (¬ (p1.toInt = 115)) ∧ (¬ (p1.toInt = 109)) ∧ (¬ (p1.toInt = 112))) ∨ (((p1.toInt = 101) ∨ ((¬ (p1.toInt = 101)) ∧ (p1.toInt = 115)) ∨ ((¬ (p1.toInt = 101)) ∧ (¬ (p1.toInt = 115)) ∧ (p1.toInt = 109)) ∨ ((¬ (p1.toInt = 101)) ∧ (¬ (p1.toInt = 115)) ∧ (¬ (p1.toInt = 109)) ∧ (p1.toInt = 112))) ∧ (((p2.toInt < -999) ∨ ((¬ (p2.toInt < -999)) ∧ (¬ (p2.toInt ≤ 999)))) ∨ (((¬ (p2.toInt < -999)) ∧ (p2.toInt ≤ 999)) ∧ ((p3.toInt < -999) ∨ ((¬ (p3.toInt < -999)) ∧ (¬ (p3.toInt ≤ 999)))))))) ∧ E = "java/lang/IllegalArgumentException" ∧ xE dC dI [] (va_A [(a1, .inr (16, [.ref a2, .ref a3, .ref a4, .ref a5, .ref a6, .ref a7, .ref a8, .ref a9, .ref a10, .ref a11])), (a2, .inr (10, [.ref a12, .ref a13, .ref a14, .ref a15, .ref a16, .int 0, .int 0]))] sz) t) ∨ ((((p1.toInt = 101) ∨ ((¬ (p1.toInt = 101)) ∧ (p1.toInt = 115)) ∨ ((¬ (p1.toInt = 101)) ∧ (¬ (p1.toInt = 115)) ∧ (p1.toInt = 109)) ∨ ((¬ (p1.toInt = 101)) ∧ (¬ (p1.toInt = 115)) ∧ (¬ (p1.toInt = 109)) ∧ (p1.toInt = 112))) ∧ (((¬ (p2.toInt < -999)) ∧ (p2.toInt ≤ 999)) ∧ ((¬ (p3.toInt < -999)) ∧ (p3.toInt ≤ 999)))) ∧ E = "java/util/NoSuchElementException" ∧ xE dC dI [] (va_A [(a1, .inr (16, [.ref a2, .ref a3, .ref a4, .ref a5, .ref a6, .ref a7, .ref a8, .ref a9, .ref a10, .ref a11])), (a2, .inr (10, [.ref a12, .ref a13, .ref a14, .ref a15, .ref a16, .int 0, .int 0]))] sz) t)) (va_A [(a1, .inr (16, [.ref a2, .ref a3, .ref a4, .ref a5, .ref a6, .ref a7, .ref a8, .ref a9, .ref a10, .ref a11])), (a2, .inr (10, [.ref a12, .ref a13, .ref a14, .ref a15, .ref a16, .int 0, .int 0]))] sz)) 4 24 (va_A [(a1, .inr (16, [.ref a2, .ref a3, .ref a4, .ref a5, .ref a6, .ref a7, .ref a8, .ref a9, .ref a10, .ref a11])), (a2, .inr (10, [.ref a12, .ref a13, .ref a14, .ref a15, .ref a16, .int 0, .int 0]))] sz) := by
  refine vx_ofW (cc := cX11_nearness) (maxL := 5) (ret := (some .int)) (by decide +kernel) rfl ?_
  intro p e s m args below meth c s₁ B hml hex hv
  obtain ⟨rfl, hsz, hP, hK, hD0, hG⟩ := hv
  have hx := B.exec
  have hb := B.bytes
  have hr := B.returns
  have hts := atoms_spec (ws := zsX11_nearness) B.pre
  have hown : s.vm.findClass RX11 = some m.cls := findClass_of_methodNamed B.named
  have hlocks := B.notSynchronized
  subst hsz
  have hD := hD0.self (sz := s.heap.size)
  generalize hAe : va_A [(a1, .inr (16, [.ref a2, .ref a3, .ref a4, .ref a5, .ref a6, .ref a7, .ref a8, .ref a9, .ref a10, .ref a11])), (a2, .inr (10, [.ref a12, .ref a13, .ref a14, .ref a15, .ref a16, .int 0, .int 0]))] s.heap.size = A at hD hG ⊢
  have hA : ∀ q : Nat, s.heap.size ≤ q → A q := fun q h => by rw [← hAe]; exact Or.inr h
  have hS : va_S A s.heap s.heap [] := va_S.rf
  have hl := lv_entry ([.ref a1, .int p1, .int p2, .int p3]) (n := 5) (Nat.le_of_ble_eq_true rfl)
  rw [lg_entry_eq]
  generalize (lg_sl ([.ref a1, .int p1, .int p2, .int p3]) ++ List.replicate (5 - (lg_sl ([.ref a1, .int p1, .int p2, .int p3])).length) Slot.unset).toArray = ls at hl ⊢
  have hl : lv_has ls 5 [(0, .ref a1), (1, .int p1), (2, .int p2), (3, .int p3)] := hl
  refine lv_iload_n hx hb dX11_nearness_0 rfl (lv_at hl 1 rfl) ?_
  have hPc := hP.sub (ws' := []) [] rfl
  have hDc := hD.sub (ws' := []) [] (by decide) rfl
  have hFc := va_free (wc := []) hD hS hA [] rfl
  refine vx_callv (vx_runS (As := [.int p1]) (rest := []) ⟨hx, hb, hml, hown, hts⟩ (xcX11_needKind l hst dC dI T s.heap.size p1) (cwS 1 hts ygX11_nearness_X11_needKind rfl rfl rfl (by decide +kernel) ⟨Nat.le_of_ble_eq_true rfl, Nat.le_of_ble_eq_true rfl⟩) ⟨xBlind, xCall hK hG hS hPc hDc hFc⟩ rfl rfl hl.1 rfl (lv_room (Nat.le_of_ble_eq_true rfl)) dX11_nearness_1 ⟨Nat.le_of_ble_eq_true rfl, Nat.le_of_ble_eq_true rfl⟩) hS (fun q _ h => hFc q h) hFc (fun q _ h => hFc q h) (fun E ce q9 u t H locs ht hvm hw hB hz1 hk1 hS hce hcv hcl => ?_) (fun u t H locs ht hvm hw hB hz1 hk1 hS => ?_)
  · rcases hB with ⟨c_1, hE, hP1, hD1⟩
    subst hE
    rw [ht] at hP1
    obtain ⟨hP, hD⟩ := va_join (wr := [(a1, .inr (16, [.ref a2, .ref a3, .ref a4, .ref a5, .ref a6, .ref a7, .ref a8, .ref a9, .ref a10, .ref a11])), (a2, .inr (10, [.ref a12, .ref a13, .ref a14, .ref a15, .ref a16, .int 0, .int 0]))]) (w1 := []) hP hD [] [0, 1] rfl rfl (by decide) (by decide) hk1 hFc hP1 hD1
    have hP : va_P (dC, dI) vwCl [(a1, .inr (16, [.ref a2, .ref a3, .ref a4, .ref a5, .ref a6, .ref a7, .ref a8, .ref a9, .ref a10, .ref a11])), (a2, .inr (10, [.ref a12, .ref a13, .ref a14, .ref a15, .ref a16, .int 0, .int 0]))] H := hP
    have hD : va_D A [(a1, .inr (16, [.ref a2, .ref a3, .ref a4, .ref a5, .ref a6, .ref a7, .ref a8, .ref a9, .ref a10, .ref a11])), (a2, .inr (10, [.ref a12, .ref a13, .ref a14, .ref a15, .ref a16, .int 0, .int 0]))] := hD
    clear hPc hDc hFc hP1 hD1 hk1 hz1 ht hvm
    have hP9 := hP.sub (ws' := []) [] rfl
    have hD9 := hD.sub (ws' := []) [] (by decide) rfl
    exact vx_out (fun x hx => absurd (hex x hx) id) hlocks hce hcv hcl (fun t ht _ => ⟨(), trivial, (Or.inl ⟨(Or.inl c_1), rfl, by rw [ht]; exact hP9, hD9⟩), hS.F ht⟩) hS.2.2 (Nat.le_of_ble_eq_true rfl) (Nat.le_of_ble_eq_true rfl)
  · rcases hB with ⟨c_2, hP1, hD1⟩
    rw [ht] at hP1
    obtain ⟨hP, hD⟩ := va_join (wr := [(a1, .inr (16, [.ref a2, .ref a3, .ref a4, .ref a5, .ref a6, .ref a7, .ref a8, .ref a9, .ref a10, .ref a11])), (a2, .inr (10, [.ref a12, .ref a13, .ref a14, .ref a15, .ref a16, .int 0, .int 0]))]) (w1 := []) hP hD [] [0, 1] rfl rfl (by decide) (by decide) hk1 hFc hP1 hD1
    have hP : va_P (dC, dI) vwCl [(a1, .inr (16, [.ref a2, .ref a3, .ref a4, .ref a5, .ref a6, .ref a7, .ref a8, .ref a9, .ref a10, .ref a11])), (a2, .inr (10, [.ref a12, .ref a13, .ref a14, .ref a15, .ref a16, .int 0, .int 0]))] H := hP
    have hD : va_D A [(a1, .inr (16, [.ref a2, .ref a3, .ref a4, .ref a5, .ref a6, .ref a7, .ref a8, .ref a9, .ref a10, .ref a11])), (a2, .inr (10, [.ref a12, .ref a13, .ref a14, .ref a15, .ref a16, .int 0, .int 0]))] := hD
    clear hPc hDc hFc hP1 hD1 hk1 hz1 ht hvm
    refine lv_iload_n hx hb dX11_nearness_4 rfl (lv_at hl 2 rfl) ?_
    refine lv_iload_n hx hb dX11_nearness_5 rfl (lv_at hl 3 rfl) ?_
    refine lv_sipush (v := 999) hx hb dX11_nearness_6 (by decide) ?_
    have hPc := hP.sub (ws' := []) [] rfl
    have hDc := hD.sub (ws' := []) [] (by decide) rfl
    have hFc := va_free (wc := []) hD hS hA [] rfl
    refine vx_callv (vx_runS (As := [.int p2, .int p3, .int 999]) (rest := []) ⟨hx, hb, hml, hown, hts⟩ (xcX11_needBoth_v2 l hst dC dI T H.size p2 p3) (cwS 3 hts ygX11_nearness_X11_needBoth rfl rfl rfl (by decide +kernel) ⟨Nat.le_of_ble_eq_true rfl, Nat.le_of_ble_eq_true rfl⟩) ⟨xBlind, xCall hK hG hS hPc hDc hFc⟩ rfl rfl hl.1 rfl (lv_room (Nat.le_of_ble_eq_true rfl)) dX11_nearness_9 ⟨Nat.le_of_ble_eq_true rfl, Nat.le_of_ble_eq_true rfl⟩) hS (fun q _ h => hFc q h) hFc (fun q _ h => hFc q h) (fun E ce q9 u t H locs ht hvm hw hB hz1 hk1 hS hce hcv hcl => ?_) (fun u t H locs ht hvm hw hB hz1 hk1 hS => ?_)
    · rcases hB with ⟨c_3, hE, hP1, hD1⟩
      subst hE
      rw [ht] at hP1
      obtain ⟨hP, hD⟩ := va_join (wr := [(a1, .inr (16, [.ref a2, .ref a3, .ref a4, .ref a5, .ref a6, .ref a7, .ref a8, .ref a9, .ref a10, .ref a11])), (a2, .inr (10, [.ref a12, .ref a13, .ref a14, .ref a15, .ref a16, .int 0, .int 0]))]) (w1 := []) hP hD [] [0, 1] rfl rfl (by decide) (by decide) hk1 hFc hP1 hD1
      have hP : va_P (dC, dI) vwCl [(a1, .inr (16, [.ref a2, .ref a3, .ref a4, .ref a5, .ref a6, .ref a7, .ref a8, .ref a9, .ref a10, .ref a11])), (a2, .inr (10, [.ref a12, .ref a13, .ref a14, .ref a15, .ref a16, .int 0, .int 0]))] H := hP
      have hD : va_D A [(a1, .inr (16, [.ref a2, .ref a3, .ref a4, .ref a5, .ref a6, .ref a7, .ref a8, .ref a9, .ref a10, .ref a11])), (a2, .inr (10, [.ref a12, .ref a13, .ref a14, .ref a15, .ref a16, .int 0, .int 0]))] := hD
      clear hPc hDc hFc hP1 hD1 hk1 hz1 ht hvm
      have hP9 := hP.sub (ws' := []) [] rfl
      have hD9 := hD.sub (ws' := []) [] (by decide) rfl
      exact vx_out (fun x hx => absurd (hex x hx) id) hlocks hce hcv hcl (fun t ht _ => ⟨(), trivial, (Or.inl ⟨(Or.inr (⟨c_2, c_3⟩)), rfl, by rw [ht]; exact hP9, hD9⟩), hS.F ht⟩) hS.2.2 (Nat.le_of_ble_eq_true rfl) (Nat.le_of_ble_eq_true rfl)
    · rcases hB with ⟨c_4, hP1, hD1⟩
      rw [ht] at hP1
      obtain ⟨hP, hD⟩ := va_join (wr := [(a1, .inr (16, [.ref a2, .ref a3, .ref a4, .ref a5, .ref a6, .ref a7, .ref a8, .ref a9, .ref a10, .ref a11])), (a2, .inr (10, [.ref a12, .ref a13, .ref a14, .ref a15, .ref a16, .int 0, .int 0]))]) (w1 := []) hP hD [] [0, 1] rfl rfl (by decide) (by decide) hk1 hFc hP1 hD1
      have hP : va_P (dC, dI) vwCl [(a1, .inr (16, [.ref a2, .ref a3, .ref a4, .ref a5, .ref a6, .ref a7, .ref a8, .ref a9, .ref a10, .ref a11])), (a2, .inr (10, [.ref a12, .ref a13, .ref a14, .ref a15, .ref a16, .int 0, .int 0]))] H := hP
      have hD : va_D A [(a1, .inr (16, [.ref a2, .ref a3, .ref a4, .ref a5, .ref a6, .ref a7, .ref a8, .ref a9, .ref a10, .ref a11])), (a2, .inr (10, [.ref a12, .ref a13, .ref a14, .ref a15, .ref a16, .int 0, .int 0]))] := hD
      clear hPc hDc hFc hP1 hD1 hk1 hz1 ht hvm
      refine lv_aload_n hx hb dX11_nearness_12 rfl (lv_at hl 0 rfl) ?_
      have hPc := hP.sub (ws' := [(a1, .inr (16, [.ref a2, .ref a3, .ref a4, .ref a5, .ref a6, .ref a7, .ref a8, .ref a9, .ref a10, .ref a11])), (a2, .inr (10, [.ref a12, .ref a13, .ref a14, .ref a15, .ref a16, .int 0, .int 0]))]) [0, 1] rfl
      have hDc := hD.sub (ws' := [(a1, .inr (16, [.ref a2, .ref a3, .ref a4, .ref a5, .ref a6, .ref a7, .ref a8, .ref a9, .ref a10, .ref a11])), (a2, .inr (10, [.ref a12, .ref a13, .ref a14, .ref a15, .ref a16, .int 0, .int 0]))]) [0, 1] (by decide) rfl
      have hFc := va_free (wc := [(a1, .inr (16, [.ref a2, .ref a3, .ref a4, .ref a5, .ref a6, .ref a7, .ref a8, .ref a9, .ref a10, .ref a11])), (a2, .inr (10, [.ref a12, .ref a13, .ref a14, .ref a15, .ref a16, .int 0, .int 0]))]) hD hS hA [0, 1] rfl
      refine vx_callv (vx_runV (As := []) (rest := []) ⟨hx, hb, hml, hown, hts⟩ (xnX11_needSomePoint l hst dC dI T a1 a2 a3 a4 a5 a6 a7 a8 a9 a10 a11 a12 a13 a14 a15 a16 H.size) (cwV 0 hts ygX11_nearness_X11_needSomePoint rfl rfl rfl (by decide +kernel) ⟨Nat.le_of_ble_eq_true rfl, Nat.le_of_ble_eq_true rfl⟩) ⟨xBlind, va_recv hK hPc (ci := 16) (q0 := 0) rfl rfl, xCall hK hG hS hPc hDc hFc⟩ rfl rfl hl.1 rfl (lv_room (Nat.le_of_ble_eq_true rfl)) dX11_nearness_13 ⟨Nat.le_of_ble_eq_true rfl, Nat.le_of_ble_eq_true rfl⟩) hS (fun q _ h => hFc q h) hFc (fun q _ h => hFc q h) (fun E ce q9 u t H locs ht hvm hw hB hz1 hk1 hS hce hcv hcl => ?_) (fun u t H locs ht hvm hw hB hz1 hk1 hS => ?_)
      · rcases hB with ⟨hE, hP1, hD1⟩
        subst hE
        rw [ht] at hP1
        obtain ⟨hP, hD⟩ := va_join (wr := []) (w1 := [(a1, .inr (16, [.ref a2, .ref a3, .ref a4, .ref a5, .ref a6, .ref a7, .ref a8, .ref a9, .ref a10, .ref a11])), (a2, .inr (10, [.ref a12, .ref a13, .ref a14, .ref a15, .ref a16, .int 0, .int 0]))]) hP hD [0, 1] [] rfl rfl (by decide) (by decide) hk1 hFc hP1 hD1
        have hP : va_P (dC, dI) vwCl [(a1, .inr (16, [.ref a2, .ref a3, .ref a4, .ref a5, .ref a6, .ref a7, .ref a8, .ref a9, .ref a10, .ref a11])), (a2, .inr (10, [.ref a12, .ref a13, .ref a14, .ref a15, .ref a16, .int 0, .int 0]))] H := hP
        have hD : va_D A [(a1, .inr (16, [.ref a2, .ref a3, .ref a4, .ref a5, .ref a6, .ref a7, .ref a8, .ref a9, .ref a10, .ref a11])), (a2, .inr (10, [.ref a12, .ref a13, .ref a14, .ref a15, .ref a16, .int 0, .int 0]))] := hD
        clear hPc hDc hFc hP1 hD1 hk1 hz1 ht hvm
        have hP9 := hP.sub (ws' := []) [] rfl
        have hD9 := hD.sub (ws' := []) [] (by decide) rfl
        exact vx_out (fun x hx => absurd (hex x hx) id) hlocks hce hcv hcl (fun t ht _ => ⟨(), trivial, (Or.inr (⟨⟨c_2, c_4⟩, rfl, by rw [ht]; exact hP9, hD9⟩)), hS.F ht⟩) hS.2.2 (Nat.le_of_ble_eq_true rfl) (Nat.le_of_ble_eq_true rfl)
      · exact absurd hB id
set_option maxHeartbeats 4000000 in
set_option maxRecDepth 100000 in
theorem xnL_nearness (l : Launch) (hst : l.stackTraces = false) (dC : Nat → ClassId) (dI : Nat → Nat → Nat) (T : Nat → ClassId) (a1 : Nat) (a2 : Nat) (a3 : Nat) (a4 : Nat) (a5 : Nat) (a6 : Nat) (a7 : Nat) (a8 : Nat) (a9 : Nat) (a10 : Nat) (a11 : Nat) (a12 : Nat) (a13 : Nat) (a14 : Nat) (a15 : Nat) (a16 : Nat) (a17 : Nat) (sz : Nat) (p1 : Int32) (p2 : Int32) (p3 : Int32) : Met l yL_nearness zsL_nearness ({ frames := 9, cells := 4, slots := 24, locals := 150 } : Room) (va_Pc [.ref a1, .int p1, .int p2, .int p3, .ref a2] (fun U => xB dC dI T [(a1, .inr (16, [.ref a3, .ref a4, .ref a5, .ref a6, .ref a7, .ref a8, .ref a9, .ref a10, .ref a11, .ref a12])), (a3, .inr (10, [.ref a13, .ref a14, .ref a15, .ref a16, .ref a17, .int 0, .int 0]))] sz U)) (va_Qi (fun (r u : Int32) => r = u) (fun (u : Int32) (t : State) => ((((¬ (p1.toInt = 101)) ∧ (¬ (p1.toInt = 115)) ∧ (¬ (p1.toInt = 109)) ∧ (¬ (p1.toInt = 112))) ∨ (((p1.toInt = 101) ∨ ((¬ (p1.toInt = 101)) ∧ (p1.toInt = 115)) ∨ ((¬ (p1.toInt = 101)) ∧ (¬ (p1.toInt = 115)) ∧ (p1.toInt = 109)) ∨ ((¬ (p1.toInt = 101)) ∧ (¬ (p1.toInt = 115)) ∧ (¬ (p1.toInt = 109)) ∧ (p1.toInt = 112))) ∧ (((p2.toInt < -999) ∨ ((¬ (p2.toInt < -999)) ∧ (¬ (p2.toInt ≤ 999)))) ∨ (((¬ (p2.toInt < -999)) ∧ (p2.toInt ≤ 999)) ∧ ((p3.toInt < -999) ∨ ((¬ (p3.toInt < -999)) ∧ (¬ (p3.toInt ≤ 999)))))))) ∧ 1 = u ∧ xE dC dI [] (va_A [(a1, .inr (16, [.ref a3, .ref a4, .ref a5, .ref a6, .ref a7, .ref a8, .ref a9, .ref a10, .ref a11, .ref a12])), (a3, .inr (10, [.ref a13, .ref a14, .ref a15, .ref a16, .ref a17, .int 0, .int 0]))] sz) t) ∨ ((((p1.toInt = 101) ∨ ((¬ (p1.toInt = 101)) ∧ (p1.toInt = 115)) ∨ ((¬ (p1.toInt = 101)) ∧ (¬ (p1.toInt = 115)) ∧ (p1.toInt = 109)) ∨ ((¬ (p1.toInt = 101)) ∧ (¬ (p1.toInt = 115)) ∧ (¬ (p1.toInt = 109)) ∧ (p1.toInt = 112))) ∧ (((¬ (p2.toInt < -999)) ∧ (p2.toInt ≤ 999)) ∧ ((¬ (p3.toInt < -999)) ∧ (p3.toInt ≤ 999)))) ∧ 2 = u ∧ xE dC dI [] (va_A [(a1, .inr (16, [.ref a3, .ref a4, .ref a5, .ref a6, .ref a7, .ref a8, .ref a9, .ref a10, .ref a11, .ref a12])), (a3, .inr (10, [.ref a13, .ref a14, .ref a15, .ref a16, .ref a17, .int 0, .int 0]))] sz) t)) (va_A [(a1, .inr (16, [.ref a3, .ref a4, .ref a5, .ref a6, .ref a7, .ref a8, .ref a9, .ref a10, .ref a11, .ref a12])), (a3, .inr (10, [.ref a13, .ref a14, .ref a15, .ref a16, .ref a17, .int 0, .int 0]))] sz)) 4 24 (va_A [(a1, .inr (16, [.ref a3, .ref a4, .ref a5, .ref a6, .ref a7, .ref a8, .ref a9, .ref a10, .ref a11, .ref a12])), (a3, .inr (10, [.ref a13, .ref a14, .ref a15, .ref a16, .ref a17, .int 0, .int 0]))] sz) := by
  refine va_MetW (cc := cL_nearness) (maxL := 6) (ret := (some .int)) (hh := [(0, 12, 15, 13), (0, 12, 19, 35)]) (by decide +kernel) rfl ?_
  intro p e s m args below meth c s₁ B hml hv
  obtain ⟨rfl, hsz, hP, hK, hD0, hG⟩ := hv
  have hx := B.exec
  have hb := B.bytes
  have hr := B.returns
  have hts := atoms_spec (ws := zsL_nearness) B.pre
  have hown : s.vm.findClass RL = some m.cls := findClass_of_methodNamed B.named
  have hlocks := B.notSynchronized
  have htab := vx_table (x := yL_nearness) B (hts (.codeWith yL_nearness cL_nearness 6 (some .int) [(0, 12, 15, 13), (0, 12, 19, 35)]) (by decide +kernel))
  subst hsz
  have hD := hD0.self (sz := s.heap.size)
  generalize hAe : va_A [(a1, .inr (16, [.ref a3, .ref a4, .ref a5, .ref a6, .ref a7, .ref a8, .ref a9, .ref a10, .ref a11, .ref a12])), (a3, .inr (10, [.ref a13, .ref a14, .ref a15, .ref a16, .ref a17, .int 0, .int 0]))] s.heap.size = A at hD hG ⊢
  have hA : ∀ q : Nat, s.heap.size ≤ q → A q := fun q h => by rw [← hAe]; exact Or.inr h
  have hS : va_S A s.heap s.heap [] := va_S.rf
  have hl := lv_entry ([.ref a1, .int p1, .int p2, .int p3, .ref a2]) (n := 6) (Nat.le_of_ble_eq_true rfl)
  rw [lg_entry_eq]
  generalize (lg_sl ([.ref a1, .int p1, .int p2, .int p3, .ref a2]) ++ List.replicate (6 - (lg_sl ([.ref a1, .int p1, .int p2, .int p3, .ref a2])).length) Slot.unset).toArray = ls at hl ⊢
  have hl : lv_has ls 6 [(0, .ref a1), (1, .int p1), (2, .int p2), (3, .int p3), (4, .ref a2)] := hl
  refine lv_aload hx hb dL_nearness_0 (lv_at hl 4 rfl) ?_
  refine lv_iconst (v := 0) hx hb dL_nearness_2 (by decide) ?_
  refine lv_aload_n hx hb dL_nearness_3 rfl (lv_at hl 0 rfl) ?_
  refine lv_iload_n hx hb dL_nearness_4 rfl (lv_at hl 1 rfl) ?_
  refine lv_iload_n hx hb dL_nearness_5 rfl (lv_at hl 2 rfl) ?_
  refine lv_iload_n hx hb dL_nearness_6 rfl (lv_at hl 3 rfl) ?_
  have hPc := hP.sub (ws' := [(a1, .inr (16, [.ref a3, .ref a4, .ref a5, .ref a6, .ref a7, .ref a8, .ref a9, .ref a10, .ref a11, .ref a12])), (a3, .inr (10, [.ref a13, .ref a14, .ref a15, .ref a16, .ref a17, .int 0, .int 0]))]) [0, 1] rfl
  have hDc := hD.sub (ws' := [(a1, .inr (16, [.ref a3, .ref a4, .ref a5, .ref a6, .ref a7, .ref a8, .ref a9, .ref a10, .ref a11, .ref a12])), (a3, .inr (10, [.ref a13, .ref a14, .ref a15, .ref a16, .ref a17, .int 0, .int 0]))]) [0, 1] (by decide) rfl
  have hFc := va_free (wc := [(a1, .inr (16, [.ref a3, .ref a4, .ref a5, .ref a6, .ref a7, .ref a8, .ref a9, .ref a10, .ref a11, .ref a12])), (a3, .inr (10, [.ref a13, .ref a14, .ref a15, .ref a16, .ref a17, .int 0, .int 0]))]) hD hS hA [0, 1] rfl
  refine vx_calli (vx_runV (As := [.int p1, .int p2, .int p3]) (rest := [.int 0, .ref a2]) ⟨hx, hb, hml, hown, hts⟩ (xnX11_nearness l hst dC dI T a1 a3 a4 a5 a6 a7 a8 a9 a10 a11 a12 a13 a14 a15 a16 a17 s.heap.size p1 p2 p3) (cwV 3 hts ygL_nearness_X11_nearness rfl rfl rfl (by decide +kernel) ⟨Nat.le_of_ble_eq_true rfl, Nat.le_of_ble_eq_true rfl⟩) ⟨xBlind, va_recv hK hPc (ci := 16) (q0 := 0) rfl rfl, xCall hK hG hS hPc hDc hFc⟩ rfl rfl hl.1 rfl (lv_room (Nat.le_of_ble_eq_true rfl)) dL_nearness_7 ⟨Nat.le_of_ble_eq_true rfl, Nat.le_of_ble_eq_true rfl⟩) hS (fun q _ h => hFc q h) hFc (fun q _ h => hFc q h) (fun E ce q9 u t H locs ht hvm hw hB hz1 hk1 hS hce hcv hcl => ?_) (fun r_9 u t H locs ht hvm hw hB hz1 hk1 hS => ?_)
  · rcases hB with ⟨c_1, hE, hP1, hD1⟩ | ⟨c_2, hE, hP1, hD1⟩
    · subst hE
      rw [ht] at hP1
      obtain ⟨hP, hD⟩ := va_join (wr := []) (w1 := []) hP hD [0, 1] [] rfl rfl (by decide) (by decide) hk1 hFc hP1 hD1
      have hP : va_P (dC, dI) vwCl [] H := hP
      have hD : va_D A [] := hD
      clear hPc hDc hFc hP1 hD1 hk1 hz1 ht hvm
      refine vx_catch (E := "java/lang/IllegalArgumentException") (name := "java/lang/IllegalArgumentException") hown [] ⟨0, 12, 15, 13⟩ [⟨0, 12, 19, 35⟩] (htab.trans rfl) (fun _ h => absurd h List.not_mem_nil) (by decide) (by decide) (hts (.classLink RL 13 "java/lang/IllegalArgumentException") (by decide +kernel)) (xBad_use hG.2.2.2.1 _ (by decide +kernel)) hce hcv hcl ?_
      refine lv_astore (lv' := [(5, .ref q9), (0, .ref a1), (1, .int p1), (2, .int p2), (3, .int p3), (4, .ref a2)]) hx hb dL_nearness_15 hl (by decide) rfl (fun ls hl => ?_)
      refine lv_iconst (v := 1) hx hb dL_nearness_17 (by decide) ?_
      have hP9 := hP.sub (ws' := []) [] rfl
      have hD9 := hD.sub (ws' := []) [] (by decide) rfl
      exact W.iret (v := 1) hx hb hr (fun t ht hW => ⟨⟨_, _, rfl, rfl, (Or.inl ⟨c_1, rfl, by rw [ht]; exact hP9, hD9⟩)⟩, hS.F ht⟩) hS.2.2 dL_nearness_18
    · subst hE
      rw [ht] at hP1
      obtain ⟨hP, hD⟩ := va_join (wr := []) (w1 := []) hP hD [0, 1] [] rfl rfl (by decide) (by decide) hk1 hFc hP1 hD1
      have hP : va_P (dC, dI) vwCl [] H := hP
      have hD : va_D A [] := hD
      clear hPc hDc hFc hP1 hD1 hk1 hz1 ht hvm
      refine vx_catch (E := "java/util/NoSuchElementException") (name := "java/util/NoSuchElementException") hown [⟨0, 12, 15, 13⟩] ⟨0, 12, 19, 35⟩ [] (htab.trans rfl) (List.forall_mem_cons.mpr ⟨(Or.inr ⟨by decide, "java/lang/IllegalArgumentException", hts (.classLink RL 13 "java/lang/IllegalArgumentException") (by decide +kernel), (hG.2.2.2.2.2.2.2.2.2.2.2.2.1 ("java/util/NoSuchElementException", "java/lang/IllegalArgumentException") (List.mem_of_getElem? (i := 10) rfl))⟩), (fun _ h => absurd h List.not_mem_nil)⟩) (by decide) (by decide) (hts (.classLink RL 35 "java/util/NoSuchElementException") (by decide +kernel)) (xBad_use hG.2.2.2.1 _ (by decide +kernel)) hce hcv hcl ?_
      refine lv_astore (lv' := [(5, .ref q9), (0, .ref a1), (1, .int p1), (2, .int p2), (3, .int p3), (4, .ref a2)]) hx hb dL_nearness_19 hl (by decide) rfl (fun ls hl => ?_)
      refine lv_iconst (v := 2) hx hb dL_nearness_21 (by decide) ?_
      have hP9 := hP.sub (ws' := []) [] rfl
      have hD9 := hD.sub (ws' := []) [] (by decide) rfl
      exact W.iret (v := 2) hx hb hr (fun t ht hW => ⟨⟨_, _, rfl, rfl, (Or.inr (⟨c_2, rfl, by rw [ht]; exact hP9, hD9⟩))⟩, hS.F ht⟩) hS.2.2 dL_nearness_22
  · exact absurd hB id
set_option maxHeartbeats 4000000 in
set_option maxRecDepth 100000 in
theorem xnX11_timeOfChange (l : Launch) (hst : l.stackTraces = false) (dC : Nat → ClassId) (dI : Nat → Nat → Nat) (T : Nat → ClassId) (a1 : Nat) (a2 : Nat) (a3 : Nat) (a4 : Nat) (a5 : Nat) (a6 : Nat) (a7 : Nat) (a8 : Nat) (a9 : Nat) (a10 : Nat) (a11 : Nat) (a12 : Nat) (a13 : Nat) (a14 : Nat) (a15 : Nat) (a16 : Nat) (sz : Nat) (p1 : Int32) (p2 : Int32) : vx_Met l yX11_timeOfChange zsX11_timeOfChange ({ frames := 7, cells := 1, slots := 6, locals := 102 } : Room) (va_Pc [.ref a1, .int p1, .int p2] (fun U => xB dC dI T [(a1, .inr (16, [.ref a2, .ref a3, .ref a4, .ref a5, .ref a6, .ref a7, .ref a8, .ref a9, .ref a10, .ref a11])), (a2, .inr (10, [.ref a12, .ref a13, .ref a14, .ref a15, .ref a16, .int 0, .int 0]))] sz U)) (va_Qi (fun (r u : Int32) => r = u) (fun (u : Int32) (t : State) => False) (va_A [(a1, .inr (16, [.ref a2, .ref a3, .ref a4, .ref a5, .ref a6, .ref a7, .ref a8, .ref a9, .ref a10, .ref a11])), (a2, .inr (10, [.ref a12, .ref a13, .ref a14, .ref a15, .ref a16, .int 0, .int 0]))] sz)) (vx_X (fun _ : Unit => True) (fun (E : String) (_ : Unit) (t : State) => E = "java/util/NoSuchElementException" ∧ xE dC dI [(a1, .inr (16, [.ref a2, .ref a3, .ref a4, .ref a5, .ref a6, .ref a7, .ref a8, .ref a9, .ref a10, .ref a11])), (a2, .inr (10, [.ref a12, .ref a13, .ref a14, .ref a15, .ref a16, .int 0, .int 0]))] (va_A [(a1, .inr (16, [.ref a2, .ref a3, .ref a4, .ref a5, .ref a6, .ref a7, .ref a8, .ref a9, .ref a10, .ref a11])), (a2, .inr (10, [.ref a12, .ref a13, .ref a14, .ref a15, .ref a16, .int 0, .int 0]))] sz) t) (va_A [(a1, .inr (16, [.ref a2, .ref a3, .ref a4, .ref a5, .ref a6, .ref a7, .ref a8, .ref a9, .ref a10, .ref a11])), (a2, .inr (10, [.ref a12, .ref a13, .ref a14, .ref a15, .ref a16, .int 0, .int 0]))] sz)) 1 6 (va_A [(a1, .inr (16, [.ref a2, .ref a3, .ref a4, .ref a5, .ref a6, .ref a7, .ref a8, .ref a9, .ref a10, .ref a11])), (a2, .inr (10, [.ref a12, .ref a13, .ref a14, .ref a15, .ref a16, .int 0, .int 0]))] sz) := by
  refine vx_ofW (cc := cX11_timeOfChange) (maxL := 5) (ret := (some .int)) (by decide +kernel) rfl ?_
  intro p e s m args below meth c s₁ B hml hex hv
  obtain ⟨rfl, hsz, hP, hK, hD0, hG⟩ := hv
  have hx := B.exec
  have hb := B.bytes
  have hr := B.returns
  have hts := atoms_spec (ws := zsX11_timeOfChange) B.pre
  have hown : s.vm.findClass RX11 = some m.cls := findClass_of_methodNamed B.named
  have hlocks := B.notSynchronized
  subst hsz
  have hD := hD0.self (sz := s.heap.size)
  generalize hAe : va_A [(a1, .inr (16, [.ref a2, .ref a3, .ref a4, .ref a5, .ref a6, .ref a7, .ref a8, .ref a9, .ref a10, .ref a11])), (a2, .inr (10, [.ref a12, .ref a13, .ref a14, .ref a15, .ref a16, .int 0, .int 0]))] s.heap.size = A at hD hG ⊢
  have hA : ∀ q : Nat, s.heap.size ≤ q → A q := fun q h => by rw [← hAe]; exact Or.inr h
  have hS : va_S A s.heap s.heap [] := va_S.rf
  have hl := lv_entry ([.ref a1, .int p1, .int p2]) (n := 5) (Nat.le_of_ble_eq_true rfl)
  rw [lg_entry_eq]
  generalize (lg_sl ([.ref a1, .int p1, .int p2]) ++ List.replicate (5 - (lg_sl ([.ref a1, .int p1, .int p2])).length) Slot.unset).toArray = ls at hl ⊢
  have hl : lv_has ls 5 [(0, .ref a1), (1, .int p1), (2, .int p2)] := hl
  refine lv_aload_n hx hb dX11_timeOfChange_0 rfl (lv_at hl 0 rfl) ?_
  have hPc := hP.sub (ws' := [(a1, .inr (16, [.ref a2, .ref a3, .ref a4, .ref a5, .ref a6, .ref a7, .ref a8, .ref a9, .ref a10, .ref a11])), (a2, .inr (10, [.ref a12, .ref a13, .ref a14, .ref a15, .ref a16, .int 0, .int 0]))]) [0, 1] rfl
  have hDc := hD.sub (ws' := [(a1, .inr (16, [.ref a2, .ref a3, .ref a4, .ref a5, .ref a6, .ref a7, .ref a8, .ref a9, .ref a10, .ref a11])), (a2, .inr (10, [.ref a12, .ref a13, .ref a14, .ref a15, .ref a16, .int 0, .int 0]))]) [0, 1] (by decide) rfl
  have hFc := va_free (wc := [(a1, .inr (16, [.ref a2, .ref a3, .ref a4, .ref a5, .ref a6, .ref a7, .ref a8, .ref a9, .ref a10, .ref a11])), (a2, .inr (10, [.ref a12, .ref a13, .ref a14, .ref a15, .ref a16, .int 0, .int 0]))]) hD hS hA [0, 1] rfl
  refine vx_callv (vx_runV (As := []) (rest := []) ⟨hx, hb, hml, hown, hts⟩ (xnX11_needSomePoint l hst dC dI T a1 a2 a3 a4 a5 a6 a7 a8 a9 a10 a11 a12 a13 a14 a15 a16 s.heap.size) (cwV 0 hts ygX11_timeOfChange_X11_needSomePoint rfl rfl rfl (by decide +kernel) ⟨Nat.le_of_ble_eq_true rfl, Nat.le_of_ble_eq_true rfl⟩) ⟨xBlind, va_recv hK hPc (ci := 16) (q0 := 0) rfl rfl, xCall hK hG hS hPc hDc hFc⟩ rfl rfl hl.1 rfl (lv_room (Nat.le_of_ble_eq_true rfl)) dX11_timeOfChange_1 ⟨Nat.le_of_ble_eq_true rfl, Nat.le_of_ble_eq_true rfl⟩) hS (fun q _ h => hFc q h) hFc (fun q _ h => hFc q h) (fun E ce q9 u t H locs ht hvm hw hB hz1 hk1 hS hce hcv hcl => ?_) (fun u t H locs ht hvm hw hB hz1 hk1 hS => ?_)
  · rcases hB with ⟨hE, hP1, hD1⟩
    subst hE
    rw [ht] at hP1
    obtain ⟨hP, hD⟩ := va_join (wr := []) (w1 := [(a1, .inr (16, [.ref a2, .ref a3, .ref a4, .ref a5, .ref a6, .ref a7, .ref a8, .ref a9, .ref a10, .ref a11])), (a2, .inr (10, [.ref a12, .ref a13, .ref a14, .ref a15, .ref a16, .int 0, .int 0]))]) hP hD [0, 1] [] rfl rfl (by decide) (by decide) hk1 hFc hP1 hD1
    have hP : va_P (dC, dI) vwCl [(a1, .inr (16, [.ref a2, .ref a3, .ref a4, .ref a5, .ref a6, .ref a7, .ref a8, .ref a9, .ref a10, .ref a11])), (a2, .inr (10, [.ref a12, .ref a13, .ref a14, .ref a15, .ref a16, .int 0, .int 0]))] H := hP
    have hD : va_D A [(a1, .inr (16, [.ref a2, .ref a3, .ref a4, .ref a5, .ref a6, .ref a7, .ref a8, .ref a9, .ref a10, .ref a11])), (a2, .inr (10, [.ref a12, .ref a13, .ref a14, .ref a15, .ref a16, .int 0, .int 0]))] := hD
    clear hPc hDc hFc hP1 hD1 hk1 hz1 ht hvm
    have hP9 := hP.sub (ws' := [(a1, .inr (16, [.ref a2, .ref a3, .ref a4, .ref a5, .ref a6, .ref a7, .ref a8, .ref a9, .ref a10, .ref a11])), (a2, .inr (10, [.ref a12, .ref a13, .ref a14, .ref a15, .ref a16, .int 0, .int 0]))]) [0, 1] rfl
    have hD9 := hD.sub (ws' := [(a1, .inr (16, [.ref a2, .ref a3, .ref a4, .ref a5, .ref a6, .ref a7, .ref a8, .ref a9, .ref a10, .ref a11])), (a2, .inr (10, [.ref a12, .ref a13, .ref a14, .ref a15, .ref a16, .int 0, .int 0]))]) [0, 1] (by decide) rfl
    exact vx_out (fun x hx => absurd (hex x hx) id) hlocks hce hcv hcl (fun t ht _ => ⟨(), trivial, ⟨rfl, by rw [ht]; exact hP9, hD9⟩, hS.F ht⟩) hS.2.2 (Nat.le_of_ble_eq_true rfl) (Nat.le_of_ble_eq_true rfl)
  · exact absurd hB id
set_option maxHeartbeats 4000000 in
set_option maxRecDepth 100000 in
theorem xnX11_nextNearest (l : Launch) (hst : l.stackTraces = false) (dC : Nat → ClassId) (dI : Nat → Nat → Nat) (T : Nat → ClassId) (a1 : Nat) (a2 : Nat) (a3 : Nat) (a4 : Nat) (a5 : Nat) (a6 : Nat) (a7 : Nat) (a8 : Nat) (a9 : Nat) (a10 : Nat) (a11 : Nat) (a12 : Nat) (a13 : Nat) (a14 : Nat) (a15 : Nat) (a16 : Nat) (sz : Nat) (p1 : Int32) (p2 : Int32) : vx_Met l yX11_nextNearest zsX11_nextNearest ({ frames := 8, cells := 3, slots := 18, locals := 126 } : Room) (va_Pc [.ref a1, .int p1, .int p2] (fun U => xB dC dI T [(a1, .inr (16, [.ref a2, .ref a3, .ref a4, .ref a5, .ref a6, .ref a7, .ref a8, .ref a9, .ref a10, .ref a11])), (a2, .inr (10, [.ref a12, .ref a13, .ref a14, .ref a15, .ref a16, .int 0, .int 0]))] sz U)) (va_Qi (fun (r u : Int32) => r = u) (fun (u : Int32) (t : State) => False) (va_A [(a1, .inr (16, [.ref a2, .ref a3, .ref a4, .ref a5, .ref a6, .ref a7, .ref a8, .ref a9, .ref a10, .ref a11])), (a2, .inr (10, [.ref a12, .ref a13, .ref a14, .ref a15, .ref a16, .int 0, .int 0]))] sz)) (vx_X (fun _ : Unit => True) (fun (E : String) (_ : Unit) (t : State) => ((((p1.toInt < -100) ∨ ((¬ (p1.toInt < -100)) ∧ (¬ (p1.toInt ≤ 100)))) ∨ (((¬ (p1.toInt < -100)) ∧ (p1.toInt ≤ 100)) ∧ ((p2.toInt < -100) ∨ ((¬ (p2.toInt < -100)) ∧ (¬ (p2.toInt ≤ 100)))))) ∧ E = "java/lang/IllegalArgumentException" ∧ xE dC dI [] (va_A [(a1, .inr (16, [.ref a2, .ref a3, .ref a4, .ref a5, .ref a6, .ref a7, .ref a8, .ref a9, .ref a10, .ref a11])), (a2, .inr (10, [.ref a12, .ref a13, .ref a14, .ref a15, .ref a16, .int 0, .int 0]))] sz) t) ∨ ((((¬ (p1.toInt < -100)) ∧ (p1.toInt ≤ 100)) ∧ ((¬ (p2.toInt < -100)) ∧ (p2.toInt ≤ 100))) ∧ E = "java/util/NoSuchElementException" ∧ xE dC dI [] (va_A [(a1, .inr (16, [.ref a2, .ref a3, .ref a4, .ref a5, .ref a6, .ref a7, .ref a8, .ref a9, .ref a10, .ref a11])), (a2, .inr (10, [.ref a12, .ref a13, .ref a14, .ref a15, .ref a16, .int 0, .int 0]))] sz) t)) (va_A [(a1, .inr (16, [.ref a2, .ref a3, .ref a4, .ref a5, .ref a6, .ref a7, .ref a8, .ref a9, .ref a10, .ref a11])), (a2, .inr (10, [.ref a12, .ref a13, .ref a14, .ref a15, .ref a16, .int 0, .int 0]))] sz)) 3 18 (va_A [(a1, .inr (16, [.ref a2, .ref a3, .ref a4, .ref a5, .ref a6, .ref a7, .ref a8, .ref a9, .ref a10, .ref a11])), (a2, .inr (10, [.ref a12, .ref a13, .ref a14, .ref a15, .ref a16, .int 0, .int 0]))] sz) := by
  refine vx_ofW (cc := cX11_nextNearest) (maxL := 3) (ret := (some .int)) (by decide +kernel) rfl ?_
  intro p e s m args below meth c s₁ B hml hex hv
  obtain ⟨rfl, hsz, hP, hK, hD0, hG⟩ := hv
  have hx := B.exec
  have hb := B.bytes
  have hr := B.returns
  have hts := atoms_spec (ws := zsX11_nextNearest) B.pre
  have hown : s.vm.findClass RX11 = some m.cls := findClass_of_methodNamed B.named
  have hlocks := B.notSynchronized
  have hin_X11 : ∀ w ∈ wsX110, w ∈ zsX11_nextNearest := by decide +kernel
  subst hsz
  have hD := hD0.self (sz := s.heap.size)
  generalize hAe : va_A [(a1, .inr (16, [.ref a2, .ref a3, .ref a4, .ref a5, .ref a6, .ref a7, .ref a8, .ref a9, .ref a10, .ref a11])), (a2, .inr (10, [.ref a12, .ref a13, .ref a14, .ref a15, .ref a16, .int 0, .int 0]))] s.heap.size = A at hD hG ⊢
  have hA : ∀ q : Nat, s.heap.size ≤ q → A q := fun q h => by rw [← hAe]; exact Or.inr h
  have hS : va_S A s.heap s.heap [] := va_S.rf
  have hl := lv_entry ([.ref a1, .int p1, .int p2]) (n := 3) (Nat.le_of_ble_eq_true rfl)
  rw [lg_entry_eq]
  generalize (lg_sl ([.ref a1, .int p1, .int p2]) ++ List.replicate (3 - (lg_sl ([.ref a1, .int p1, .int p2])).length) Slot.unset).toArray = ls at hl ⊢
  have hl : lv_has ls 3 [(0, .ref a1), (1, .int p1), (2, .int p2)] := hl
  refine lv_iload_n hx hb dX11_nextNearest_0 rfl (lv_at hl 1 rfl) ?_
  refine lv_iload_n hx hb dX11_nextNearest_1 rfl (lv_at hl 2 rfl) ?_
  refine lv_bipush (v := 100) hx hb dX11_nextNearest_2 (by decide) ?_
  have hPc := hP.sub (ws' := []) [] rfl
  have hDc := hD.sub (ws' := []) [] (by decide) rfl
  have hFc := va_free (wc := []) hD hS hA [] rfl
  refine vx_callv (vx_runS (As := [.int p1, .int p2, .int 100]) (rest := []) ⟨hx, hb, hml, hown, hts⟩ (xcX11_needBoth l hst dC dI T s.heap.size p1 p2) (cwS 3 hts ygX11_nextNearest_X11_needBoth rfl rfl rfl (by decide +kernel) ⟨Nat.le_of_ble_eq_true rfl, Nat.le_of_ble_eq_true rfl⟩) ⟨xBlind, xCall hK hG hS hPc hDc hFc⟩ rfl rfl hl.1 rfl (lv_room (Nat.le_of_ble_eq_true rfl)) dX11_nextNearest_4 ⟨Nat.le_of_ble_eq_true rfl, Nat.le_of_ble_eq_true rfl⟩) hS (fun q _ h => hFc q h) hFc (fun q _ h => hFc q h) (fun E ce q9 u t H locs ht hvm hw hB hz1 hk1 hS hce hcv hcl => ?_) (fun u t H locs ht hvm hw hB hz1 hk1 hS => ?_)
  · rcases hB with ⟨c_1, hE, hP1, hD1⟩
    subst hE
    rw [ht] at hP1
    obtain ⟨hP, hD⟩ := va_join (wr := [(a1, .inr (16, [.ref a2, .ref a3, .ref a4, .ref a5, .ref a6, .ref a7, .ref a8, .ref a9, .ref a10, .ref a11])), (a2, .inr (10, [.ref a12, .ref a13, .ref a14, .ref a15, .ref a16, .int 0, .int 0]))]) (w1 := []) hP hD [] [0, 1] rfl rfl (by decide) (by decide) hk1 hFc hP1 hD1
    have hP : va_P (dC, dI) vwCl [(a1, .inr (16, [.ref a2, .ref a3, .ref a4, .ref a5, .ref a6, .ref a7, .ref a8, .ref a9, .ref a10, .ref a11])), (a2, .inr (10, [.ref a12, .ref a13, .ref a14, .ref a15, .ref a16, .int 0, .int 0]))] H := hP
    have hD : va_D A [(a1, .inr (16, [.ref a2, .ref a3, .ref a4, .ref a5, .ref a6, .ref a7, .ref a8, .ref a9, .ref a10, .ref a11])), (a2, .inr (10, [.ref a12, .ref a13, .ref a14, .ref a15, .ref a16, .int 0, .int 0]))] := hD
    clear hPc hDc hFc hP1 hD1 hk1 hz1 ht hvm
    have hP9 := hP.sub (ws' := []) [] rfl
    have hD9 := hD.sub (ws' := []) [] (by decide) rfl
    exact vx_out (fun x hx => absurd (hex x hx) id) hlocks hce hcv hcl (fun t ht _ => ⟨(), trivial, (Or.inl ⟨c_1, rfl, by rw [ht]; exact hP9, hD9⟩), hS.F ht⟩) hS.2.2 (Nat.le_of_ble_eq_true rfl) (Nat.le_of_ble_eq_true rfl)
  · rcases hB with ⟨c_2, hP1, hD1⟩
    rw [ht] at hP1
    obtain ⟨hP, hD⟩ := va_join (wr := [(a1, .inr (16, [.ref a2, .ref a3, .ref a4, .ref a5, .ref a6, .ref a7, .ref a8, .ref a9, .ref a10, .ref a11])), (a2, .inr (10, [.ref a12, .ref a13, .ref a14, .ref a15, .ref a16, .int 0, .int 0]))]) (w1 := []) hP hD [] [0, 1] rfl rfl (by decide) (by decide) hk1 hFc hP1 hD1
    have hP : va_P (dC, dI) vwCl [(a1, .inr (16, [.ref a2, .ref a3, .ref a4, .ref a5, .ref a6, .ref a7, .ref a8, .ref a9, .ref a10, .ref a11])), (a2, .inr (10, [.ref a12, .ref a13, .ref a14, .ref a15, .ref a16, .int 0, .int 0]))] H := hP
    have hD : va_D A [(a1, .inr (16, [.ref a2, .ref a3, .ref a4, .ref a5, .ref a6, .ref a7, .ref a8, .ref a9, .ref a10, .ref a11])), (a2, .inr (10, [.ref a12, .ref a13, .ref a14, .ref a15, .ref a16, .int 0, .int 0]))] := hD
    clear hPc hDc hFc hP1 hD1 hk1 hz1 ht hvm
    refine lv_aload_n hx hb dX11_nextNearest_7 rfl (lv_at hl 0 rfl) ?_
    refine va_get (D := (dC, dI)) (ci := 16) (v := .ref a2) (C := RX11) (T := TX11) (N := 10) hx hb hts hin_X11 hown hK hP 0 rfl rfl 0 (by decide) (hts (.fieldLink RX11 12 "Nearestward" "ground" "LNearestward$Ground;") (by decide +kernel)) (fun _ h9 => h9) rfl dX11_nextNearest_8 ?_
    refine lv_aload_n hx hb dX11_nextNearest_11 rfl (lv_at hl 0 rfl) ?_
    refine lv_iload_n hx hb dX11_nextNearest_12 rfl (lv_at hl 1 rfl) ?_
    refine lv_iload_n hx hb dX11_nextNearest_13 rfl (lv_at hl 2 rfl) ?_
    have hPc := hP.sub (ws' := [(a1, .inr (16, [.ref a2, .ref a3, .ref a4, .ref a5, .ref a6, .ref a7, .ref a8, .ref a9, .ref a10, .ref a11])), (a2, .inr (10, [.ref a12, .ref a13, .ref a14, .ref a15, .ref a16, .int 0, .int 0]))]) [0, 1] rfl
    have hDc := hD.sub (ws' := [(a1, .inr (16, [.ref a2, .ref a3, .ref a4, .ref a5, .ref a6, .ref a7, .ref a8, .ref a9, .ref a10, .ref a11])), (a2, .inr (10, [.ref a12, .ref a13, .ref a14, .ref a15, .ref a16, .int 0, .int 0]))]) [0, 1] (by decide) rfl
    have hFc := va_free (wc := [(a1, .inr (16, [.ref a2, .ref a3, .ref a4, .ref a5, .ref a6, .ref a7, .ref a8, .ref a9, .ref a10, .ref a11])), (a2, .inr (10, [.ref a12, .ref a13, .ref a14, .ref a15, .ref a16, .int 0, .int 0]))]) hD hS hA [0, 1] rfl
    refine vx_calli (vx_runV (As := [.int p1, .int p2]) (rest := [.ref a2]) ⟨hx, hb, hml, hown, hts⟩ (xnX11_timeOfChange l hst dC dI T a1 a2 a3 a4 a5 a6 a7 a8 a9 a10 a11 a12 a13 a14 a15 a16 H.size p1 p2) (cwV 2 hts ygX11_nextNearest_X11_timeOfChange rfl rfl rfl (by decide +kernel) ⟨Nat.le_of_ble_eq_true rfl, Nat.le_of_ble_eq_true rfl⟩) ⟨xBlind, va_recv hK hPc (ci := 16) (q0 := 0) rfl rfl, xCall hK hG hS hPc hDc hFc⟩ rfl rfl hl.1 rfl (lv_room (Nat.le_of_ble_eq_true rfl)) dX11_nextNearest_14 ⟨Nat.le_of_ble_eq_true rfl, Nat.le_of_ble_eq_true rfl⟩) hS (fun q _ h => hFc q h) hFc (fun q _ h => hFc q h) (fun E ce q9 u t H locs ht hvm hw hB hz1 hk1 hS hce hcv hcl => ?_) (fun r_9 u t H locs ht hvm hw hB hz1 hk1 hS => ?_)
    · rcases hB with ⟨hE, hP1, hD1⟩
      subst hE
      rw [ht] at hP1
      obtain ⟨hP, hD⟩ := va_join (wr := []) (w1 := [(a1, .inr (16, [.ref a2, .ref a3, .ref a4, .ref a5, .ref a6, .ref a7, .ref a8, .ref a9, .ref a10, .ref a11])), (a2, .inr (10, [.ref a12, .ref a13, .ref a14, .ref a15, .ref a16, .int 0, .int 0]))]) hP hD [0, 1] [] rfl rfl (by decide) (by decide) hk1 hFc hP1 hD1
      have hP : va_P (dC, dI) vwCl [(a1, .inr (16, [.ref a2, .ref a3, .ref a4, .ref a5, .ref a6, .ref a7, .ref a8, .ref a9, .ref a10, .ref a11])), (a2, .inr (10, [.ref a12, .ref a13, .ref a14, .ref a15, .ref a16, .int 0, .int 0]))] H := hP
      have hD : va_D A [(a1, .inr (16, [.ref a2, .ref a3, .ref a4, .ref a5, .ref a6, .ref a7, .ref a8, .ref a9, .ref a10, .ref a11])), (a2, .inr (10, [.ref a12, .ref a13, .ref a14, .ref a15, .ref a16, .int 0, .int 0]))] := hD
      clear hPc hDc hFc hP1 hD1 hk1 hz1 ht hvm
      have hP9 := hP.sub (ws' := []) [] rfl
      have hD9 := hD.sub (ws' := []) [] (by decide) rfl
      exact vx_out (fun x hx => absurd (hex x hx) id) hlocks hce hcv hcl (fun t ht _ => ⟨(), trivial, (Or.inr (⟨c_2, rfl, by rw [ht]; exact hP9, hD9⟩)), hS.F ht⟩) hS.2.2 (Nat.le_of_ble_eq_true rfl) (Nat.le_of_ble_eq_true rfl)
    · exact absurd hB id
set_option maxHeartbeats 4000000 in
set_option maxRecDepth 100000 in
theorem xnL_nextNearest (l : Launch) (hst : l.stackTraces = false) (dC : Nat → ClassId) (dI : Nat → Nat → Nat) (T : Nat → ClassId) (a1 : Nat) (a2 : Nat) (a3 : Nat) (a4 : Nat) (a5 : Nat) (a6 : Nat) (a7 : Nat) (a8 : Nat) (a9 : Nat) (a10 : Nat) (a11 : Nat) (a12 : Nat) (a13 : Nat) (a14 : Nat) (a15 : Nat) (a16 : Nat) (a17 : Nat) (sz : Nat) (p1 : Int32) (p2 : Int32) : Met l yL_nextNearest zsL_nextNearest ({ frames := 9, cells := 3, slots := 18, locals := 148 } : Room) (va_Pc [.ref a1, .int p1, .int p2, .ref a2] (fun U => xB dC dI T [(a1, .inr (16, [.ref a3, .ref a4, .ref a5, .ref a6, .ref a7, .ref a8, .ref a9, .ref a10, .ref a11, .ref a12])), (a3, .inr (10, [.ref a13, .ref a14, .ref a15, .ref a16, .ref a17, .int 0, .int 0]))] sz U)) (va_Qi (fun (r u : Int32) => r = u) (fun (u : Int32) (t : State) => ((((p1.toInt < -100) ∨ ((¬ (p1.toInt < -100)) ∧ (¬ (p1.toInt ≤ 100)))) ∨ (((¬ (p1.toInt < -100)) ∧ (p1.toInt ≤ 100)) ∧ ((p2.toInt < -100) ∨ ((¬ (p2.toInt < -100)) ∧ (¬ (p2.toInt ≤ 100)))))) ∧ 1 = u ∧ xE dC dI [] (va_A [(a1, .inr (16, [.ref a3, .ref a4, .ref a5, .ref a6, .ref a7, .ref a8, .ref a9, .ref a10, .ref a11, .ref a12])), (a3, .inr (10, [.ref a13, .ref a14, .ref a15, .ref a16, .ref a17, .int 0, .int 0]))] sz) t) ∨ ((((¬ (p1.toInt < -100)) ∧ (p1.toInt ≤ 100)) ∧ ((¬ (p2.toInt < -100)) ∧ (p2.toInt ≤ 100))) ∧ 2 = u ∧ xE dC dI [] (va_A [(a1, .inr (16, [.ref a3, .ref a4, .ref a5, .ref a6, .ref a7, .ref a8, .ref a9, .ref a10, .ref a11, .ref a12])), (a3, .inr (10, [.ref a13, .ref a14, .ref a15, .ref a16, .ref a17, .int 0, .int 0]))] sz) t)) (va_A [(a1, .inr (16, [.ref a3, .ref a4, .ref a5, .ref a6, .ref a7, .ref a8, .ref a9, .ref a10, .ref a11, .ref a12])), (a3, .inr (10, [.ref a13, .ref a14, .ref a15, .ref a16, .ref a17, .int 0, .int 0]))] sz)) 3 18 (va_A [(a1, .inr (16, [.ref a3, .ref a4, .ref a5, .ref a6, .ref a7, .ref a8, .ref a9, .ref a10, .ref a11, .ref a12])), (a3, .inr (10, [.ref a13, .ref a14, .ref a15, .ref a16, .ref a17, .int 0, .int 0]))] sz) := by
  refine va_MetW (cc := cL_nextNearest) (maxL := 5) (ret := (some .int)) (hh := [(0, 10, 13, 13), (0, 10, 17, 35)]) (by decide +kernel) rfl ?_
  intro p e s m args below meth c s₁ B hml hv
  obtain ⟨rfl, hsz, hP, hK, hD0, hG⟩ := hv
  have hx := B.exec
  have hb := B.bytes
  have hr := B.returns
  have hts := atoms_spec (ws := zsL_nextNearest) B.pre
  have hown : s.vm.findClass RL = some m.cls := findClass_of_methodNamed B.named
  have hlocks := B.notSynchronized
  have htab := vx_table (x := yL_nextNearest) B (hts (.codeWith yL_nextNearest cL_nextNearest 5 (some .int) [(0, 10, 13, 13), (0, 10, 17, 35)]) (by decide +kernel))
  subst hsz
  have hD := hD0.self (sz := s.heap.size)
  generalize hAe : va_A [(a1, .inr (16, [.ref a3, .ref a4, .ref a5, .ref a6, .ref a7, .ref a8, .ref a9, .ref a10, .ref a11, .ref a12])), (a3, .inr (10, [.ref a13, .ref a14, .ref a15, .ref a16, .ref a17, .int 0, .int 0]))] s.heap.size = A at hD hG ⊢
  have hA : ∀ q : Nat, s.heap.size ≤ q → A q := fun q h => by rw [← hAe]; exact Or.inr h
  have hS : va_S A s.heap s.heap [] := va_S.rf
  have hl := lv_entry ([.ref a1, .int p1, .int p2, .ref a2]) (n := 5) (Nat.le_of_ble_eq_true rfl)
  rw [lg_entry_eq]
  generalize (lg_sl ([.ref a1, .int p1, .int p2, .ref a2]) ++ List.replicate (5 - (lg_sl ([.ref a1, .int p1, .int p2, .ref a2])).length) Slot.unset).toArray = ls at hl ⊢
  have hl : lv_has ls 5 [(0, .ref a1), (1, .int p1), (2, .int p2), (3, .ref a2)] := hl
  refine lv_aload_n hx hb dL_nextNearest_0 rfl (lv_at hl 3 rfl) ?_
  refine lv_iconst (v := 0) hx hb dL_nextNearest_1 (by decide) ?_
  refine lv_aload_n hx hb dL_nextNearest_2 rfl (lv_at hl 0 rfl) ?_
  refine lv_iload_n hx hb dL_nextNearest_3 rfl (lv_at hl 1 rfl) ?_
  refine lv_iload_n hx hb dL_nextNearest_4 rfl (lv_at hl 2 rfl) ?_
  have hPc := hP.sub (ws' := [(a1, .inr (16, [.ref a3, .ref a4, .ref a5, .ref a6, .ref a7, .ref a8, .ref a9, .ref a10, .ref a11, .ref a12])), (a3, .inr (10, [.ref a13, .ref a14, .ref a15, .ref a16, .ref a17, .int 0, .int 0]))]) [0, 1] rfl
  have hDc := hD.sub (ws' := [(a1, .inr (16, [.ref a3, .ref a4, .ref a5, .ref a6, .ref a7, .ref a8, .ref a9, .ref a10, .ref a11, .ref a12])), (a3, .inr (10, [.ref a13, .ref a14, .ref a15, .ref a16, .ref a17, .int 0, .int 0]))]) [0, 1] (by decide) rfl
  have hFc := va_free (wc := [(a1, .inr (16, [.ref a3, .ref a4, .ref a5, .ref a6, .ref a7, .ref a8, .ref a9, .ref a10, .ref a11, .ref a12])), (a3, .inr (10, [.ref a13, .ref a14, .ref a15, .ref a16, .ref a17, .int 0, .int 0]))]) hD hS hA [0, 1] rfl
  refine vx_calli (vx_runV (As := [.int p1, .int p2]) (rest := [.int 0, .ref a2]) ⟨hx, hb, hml, hown, hts⟩ (xnX11_nextNearest l hst dC dI T a1 a3 a4 a5 a6 a7 a8 a9 a10 a11 a12 a13 a14 a15 a16 a17 s.heap.size p1 p2) (cwV 2 hts ygL_nextNearest_X11_nextNearest rfl rfl rfl (by decide +kernel) ⟨Nat.le_of_ble_eq_true rfl, Nat.le_of_ble_eq_true rfl⟩) ⟨xBlind, va_recv hK hPc (ci := 16) (q0 := 0) rfl rfl, xCall hK hG hS hPc hDc hFc⟩ rfl rfl hl.1 rfl (lv_room (Nat.le_of_ble_eq_true rfl)) dL_nextNearest_5 ⟨Nat.le_of_ble_eq_true rfl, Nat.le_of_ble_eq_true rfl⟩) hS (fun q _ h => hFc q h) hFc (fun q _ h => hFc q h) (fun E ce q9 u t H locs ht hvm hw hB hz1 hk1 hS hce hcv hcl => ?_) (fun r_9 u t H locs ht hvm hw hB hz1 hk1 hS => ?_)
  · rcases hB with ⟨c_1, hE, hP1, hD1⟩ | ⟨c_2, hE, hP1, hD1⟩
    · subst hE
      rw [ht] at hP1
      obtain ⟨hP, hD⟩ := va_join (wr := []) (w1 := []) hP hD [0, 1] [] rfl rfl (by decide) (by decide) hk1 hFc hP1 hD1
      have hP : va_P (dC, dI) vwCl [] H := hP
      have hD : va_D A [] := hD
      clear hPc hDc hFc hP1 hD1 hk1 hz1 ht hvm
      refine vx_catch (E := "java/lang/IllegalArgumentException") (name := "java/lang/IllegalArgumentException") hown [] ⟨0, 10, 13, 13⟩ [⟨0, 10, 17, 35⟩] (htab.trans rfl) (fun _ h => absurd h List.not_mem_nil) (by decide) (by decide) (hts (.classLink RL 13 "java/lang/IllegalArgumentException") (by decide +kernel)) (xBad_use hG.2.2.2.1 _ (by decide +kernel)) hce hcv hcl ?_
      refine lv_astore (lv' := [(4, .ref q9), (0, .ref a1), (1, .int p1), (2, .int p2), (3, .ref a2)]) hx hb dL_nextNearest_13 hl (by decide) rfl (fun ls hl => ?_)
      refine lv_iconst (v := 1) hx hb dL_nextNearest_15 (by decide) ?_
      have hP9 := hP.sub (ws' := []) [] rfl
      have hD9 := hD.sub (ws' := []) [] (by decide) rfl
      exact W.iret (v := 1) hx hb hr (fun t ht hW => ⟨⟨_, _, rfl, rfl, (Or.inl ⟨c_1, rfl, by rw [ht]; exact hP9, hD9⟩)⟩, hS.F ht⟩) hS.2.2 dL_nextNearest_16
    · subst hE
      rw [ht] at hP1
      obtain ⟨hP, hD⟩ := va_join (wr := []) (w1 := []) hP hD [0, 1] [] rfl rfl (by decide) (by decide) hk1 hFc hP1 hD1
      have hP : va_P (dC, dI) vwCl [] H := hP
      have hD : va_D A [] := hD
      clear hPc hDc hFc hP1 hD1 hk1 hz1 ht hvm
      refine vx_catch (E := "java/util/NoSuchElementException") (name := "java/util/NoSuchElementException") hown [⟨0, 10, 13, 13⟩] ⟨0, 10, 17, 35⟩ [] (htab.trans rfl) (List.forall_mem_cons.mpr ⟨(Or.inr ⟨by decide, "java/lang/IllegalArgumentException", hts (.classLink RL 13 "java/lang/IllegalArgumentException") (by decide +kernel), (hG.2.2.2.2.2.2.2.2.2.2.2.2.1 ("java/util/NoSuchElementException", "java/lang/IllegalArgumentException") (List.mem_of_getElem? (i := 10) rfl))⟩), (fun _ h => absurd h List.not_mem_nil)⟩) (by decide) (by decide) (hts (.classLink RL 35 "java/util/NoSuchElementException") (by decide +kernel)) (xBad_use hG.2.2.2.1 _ (by decide +kernel)) hce hcv hcl ?_
      refine lv_astore (lv' := [(4, .ref q9), (0, .ref a1), (1, .int p1), (2, .int p2), (3, .ref a2)]) hx hb dL_nextNearest_17 hl (by decide) rfl (fun ls hl => ?_)
      refine lv_iconst (v := 2) hx hb dL_nextNearest_19 (by decide) ?_
      have hP9 := hP.sub (ws' := []) [] rfl
      have hD9 := hD.sub (ws' := []) [] (by decide) rfl
      exact W.iret (v := 2) hx hb hr (fun t ht hW => ⟨⟨_, _, rfl, rfl, (Or.inr (⟨c_2, rfl, by rw [ht]; exact hP9, hD9⟩))⟩, hS.F ht⟩) hS.2.2 dL_nextNearest_20
  · exact absurd hB id
set_option maxHeartbeats 4000000 in
set_option maxRecDepth 100000 in
theorem xnX11_nextTime (l : Launch) (hst : l.stackTraces = false) (dC : Nat → ClassId) (dI : Nat → Nat → Nat) (T : Nat → ClassId) (a1 : Nat) (a2 : Nat) (a3 : Nat) (a4 : Nat) (a5 : Nat) (a6 : Nat) (a7 : Nat) (a8 : Nat) (a9 : Nat) (a10 : Nat) (a11 : Nat) (a12 : Nat) (a13 : Nat) (a14 : Nat) (a15 : Nat) (a16 : Nat) (sz : Nat) (p1 : Int32) (p2 : Int32) : vx_Met l yX11_nextTime zsX11_nextTime ({ frames := 8, cells := 3, slots := 18, locals := 126 } : Room) (va_Pc [.ref a1, .int p1, .int p2] (fun U => xB dC dI T [(a1, .inr (16, [.ref a2, .ref a3, .ref a4, .ref a5, .ref a6, .ref a7, .ref a8, .ref a9, .ref a10, .ref a11])), (a2, .inr (10, [.ref a12, .ref a13, .ref a14, .ref a15, .ref a16, .int 0, .int 0]))] sz U)) (va_Qi (fun (r u : Int32) => r = u) (fun (u : Int32) (t : State) => False) (va_A [(a1, .inr (16, [.ref a2, .ref a3, .ref a4, .ref a5, .ref a6, .ref a7, .ref a8, .ref a9, .ref a10, .ref a11])), (a2, .inr (10, [.ref a12, .ref a13, .ref a14, .ref a15, .ref a16, .int 0, .int 0]))] sz)) (vx_X (fun _ : Unit => True) (fun (E : String) (_ : Unit) (t : State) => ((((p1.toInt < -100) ∨ ((¬ (p1.toInt < -100)) ∧ (¬ (p1.toInt ≤ 100)))) ∨ (((¬ (p1.toInt < -100)) ∧ (p1.toInt ≤ 100)) ∧ ((p2.toInt < -100) ∨ ((¬ (p2.toInt < -100)) ∧ (¬ (p2.toInt ≤ 100)))))) ∧ E = "java/lang/IllegalArgumentException" ∧ xE dC dI [] (va_A [(a1, .inr (16, [.ref a2, .ref a3, .ref a4, .ref a5, .ref a6, .ref a7, .ref a8, .ref a9, .ref a10, .ref a11])), (a2, .inr (10, [.ref a12, .ref a13, .ref a14, .ref a15, .ref a16, .int 0, .int 0]))] sz) t) ∨ ((((¬ (p1.toInt < -100)) ∧ (p1.toInt ≤ 100)) ∧ ((¬ (p2.toInt < -100)) ∧ (p2.toInt ≤ 100))) ∧ E = "java/util/NoSuchElementException" ∧ xE dC dI [] (va_A [(a1, .inr (16, [.ref a2, .ref a3, .ref a4, .ref a5, .ref a6, .ref a7, .ref a8, .ref a9, .ref a10, .ref a11])), (a2, .inr (10, [.ref a12, .ref a13, .ref a14, .ref a15, .ref a16, .int 0, .int 0]))] sz) t)) (va_A [(a1, .inr (16, [.ref a2, .ref a3, .ref a4, .ref a5, .ref a6, .ref a7, .ref a8, .ref a9, .ref a10, .ref a11])), (a2, .inr (10, [.ref a12, .ref a13, .ref a14, .ref a15, .ref a16, .int 0, .int 0]))] sz)) 3 18 (va_A [(a1, .inr (16, [.ref a2, .ref a3, .ref a4, .ref a5, .ref a6, .ref a7, .ref a8, .ref a9, .ref a10, .ref a11])), (a2, .inr (10, [.ref a12, .ref a13, .ref a14, .ref a15, .ref a16, .int 0, .int 0]))] sz) := by
  refine vx_ofW (cc := cX11_nextTime) (maxL := 3) (ret := (some .int)) (by decide +kernel) rfl ?_
  intro p e s m args below meth c s₁ B hml hex hv
  obtain ⟨rfl, hsz, hP, hK, hD0, hG⟩ := hv
  have hx := B.exec
  have hb := B.bytes
  have hr := B.returns
  have hts := atoms_spec (ws := zsX11_nextTime) B.pre
  have hown : s.vm.findClass RX11 = some m.cls := findClass_of_methodNamed B.named
  have hlocks := B.notSynchronized
  subst hsz
  have hD := hD0.self (sz := s.heap.size)
  generalize hAe : va_A [(a1, .inr (16, [.ref a2, .ref a3, .ref a4, .ref a5, .ref a6, .ref a7, .ref a8, .ref a9, .ref a10, .ref a11])), (a2, .inr (10, [.ref a12, .ref a13, .ref a14, .ref a15, .ref a16, .int 0, .int 0]))] s.heap.size = A at hD hG ⊢
  have hA : ∀ q : Nat, s.heap.size ≤ q → A q := fun q h => by rw [← hAe]; exact Or.inr h
  have hS : va_S A s.heap s.heap [] := va_S.rf
  have hl := lv_entry ([.ref a1, .int p1, .int p2]) (n := 3) (Nat.le_of_ble_eq_true rfl)
  rw [lg_entry_eq]
  generalize (lg_sl ([.ref a1, .int p1, .int p2]) ++ List.replicate (3 - (lg_sl ([.ref a1, .int p1, .int p2])).length) Slot.unset).toArray = ls at hl ⊢
  have hl : lv_has ls 3 [(0, .ref a1), (1, .int p1), (2, .int p2)] := hl
  refine lv_iload_n hx hb dX11_nextTime_0 rfl (lv_at hl 1 rfl) ?_
  refine lv_iload_n hx hb dX11_nextTime_1 rfl (lv_at hl 2 rfl) ?_
  refine lv_bipush (v := 100) hx hb dX11_nextTime_2 (by decide) ?_
  have hPc := hP.sub (ws' := []) [] rfl
  have hDc := hD.sub (ws' := []) [] (by decide) rfl
  have hFc := va_free (wc := []) hD hS hA [] rfl
  refine vx_callv (vx_runS (As := [.int p1, .int p2, .int 100]) (rest := []) ⟨hx, hb, hml, hown, hts⟩ (xcX11_needBoth l hst dC dI T s.heap.size p1 p2) (cwS 3 hts ygX11_nextTime_X11_needBoth rfl rfl rfl (by decide +kernel) ⟨Nat.le_of_ble_eq_true rfl, Nat.le_of_ble_eq_true rfl⟩) ⟨xBlind, xCall hK hG hS hPc hDc hFc⟩ rfl rfl hl.1 rfl (lv_room (Nat.le_of_ble_eq_true rfl)) dX11_nextTime_4 ⟨Nat.le_of_ble_eq_true rfl, Nat.le_of_ble_eq_true rfl⟩) hS (fun q _ h => hFc q h) hFc (fun q _ h => hFc q h) (fun E ce q9 u t H locs ht hvm hw hB hz1 hk1 hS hce hcv hcl => ?_) (fun u t H locs ht hvm hw hB hz1 hk1 hS => ?_)
  · rcases hB with ⟨c_1, hE, hP1, hD1⟩
    subst hE
    rw [ht] at hP1
    obtain ⟨hP, hD⟩ := va_join (wr := [(a1, .inr (16, [.ref a2, .ref a3, .ref a4, .ref a5, .ref a6, .ref a7, .ref a8, .ref a9, .ref a10, .ref a11])), (a2, .inr (10, [.ref a12, .ref a13, .ref a14, .ref a15, .ref a16, .int 0, .int 0]))]) (w1 := []) hP hD [] [0, 1] rfl rfl (by decide) (by decide) hk1 hFc hP1 hD1
    have hP : va_P (dC, dI) vwCl [(a1, .inr (16, [.ref a2, .ref a3, .ref a4, .ref a5, .ref a6, .ref a7, .ref a8, .ref a9, .ref a10, .ref a11])), (a2, .inr (10, [.ref a12, .ref a13, .ref a14, .ref a15, .ref a16, .int 0, .int 0]))] H := hP
    have hD : va_D A [(a1, .inr (16, [.ref a2, .ref a3, .ref a4, .ref a5, .ref a6, .ref a7, .ref a8, .ref a9, .ref a10, .ref a11])), (a2, .inr (10, [.ref a12, .ref a13, .ref a14, .ref a15, .ref a16, .int 0, .int 0]))] := hD
    clear hPc hDc hFc hP1 hD1 hk1 hz1 ht hvm
    have hP9 := hP.sub (ws' := []) [] rfl
    have hD9 := hD.sub (ws' := []) [] (by decide) rfl
    exact vx_out (fun x hx => absurd (hex x hx) id) hlocks hce hcv hcl (fun t ht _ => ⟨(), trivial, (Or.inl ⟨c_1, rfl, by rw [ht]; exact hP9, hD9⟩), hS.F ht⟩) hS.2.2 (Nat.le_of_ble_eq_true rfl) (Nat.le_of_ble_eq_true rfl)
  · rcases hB with ⟨c_2, hP1, hD1⟩
    rw [ht] at hP1
    obtain ⟨hP, hD⟩ := va_join (wr := [(a1, .inr (16, [.ref a2, .ref a3, .ref a4, .ref a5, .ref a6, .ref a7, .ref a8, .ref a9, .ref a10, .ref a11])), (a2, .inr (10, [.ref a12, .ref a13, .ref a14, .ref a15, .ref a16, .int 0, .int 0]))]) (w1 := []) hP hD [] [0, 1] rfl rfl (by decide) (by decide) hk1 hFc hP1 hD1
    have hP : va_P (dC, dI) vwCl [(a1, .inr (16, [.ref a2, .ref a3, .ref a4, .ref a5, .ref a6, .ref a7, .ref a8, .ref a9, .ref a10, .ref a11])), (a2, .inr (10, [.ref a12, .ref a13, .ref a14, .ref a15, .ref a16, .int 0, .int 0]))] H := hP
    have hD : va_D A [(a1, .inr (16, [.ref a2, .ref a3, .ref a4, .ref a5, .ref a6, .ref a7, .ref a8, .ref a9, .ref a10, .ref a11])), (a2, .inr (10, [.ref a12, .ref a13, .ref a14, .ref a15, .ref a16, .int 0, .int 0]))] := hD
    clear hPc hDc hFc hP1 hD1 hk1 hz1 ht hvm
    refine lv_aload_n hx hb dX11_nextTime_7 rfl (lv_at hl 0 rfl) ?_
    refine lv_iload_n hx hb dX11_nextTime_8 rfl (lv_at hl 1 rfl) ?_
    refine lv_iload_n hx hb dX11_nextTime_9 rfl (lv_at hl 2 rfl) ?_
    have hPc := hP.sub (ws' := [(a1, .inr (16, [.ref a2, .ref a3, .ref a4, .ref a5, .ref a6, .ref a7, .ref a8, .ref a9, .ref a10, .ref a11])), (a2, .inr (10, [.ref a12, .ref a13, .ref a14, .ref a15, .ref a16, .int 0, .int 0]))]) [0, 1] rfl
    have hDc := hD.sub (ws' := [(a1, .inr (16, [.ref a2, .ref a3, .ref a4, .ref a5, .ref a6, .ref a7, .ref a8, .ref a9, .ref a10, .ref a11])), (a2, .inr (10, [.ref a12, .ref a13, .ref a14, .ref a15, .ref a16, .int 0, .int 0]))]) [0, 1] (by decide) rfl
    have hFc := va_free (wc := [(a1, .inr (16, [.ref a2, .ref a3, .ref a4, .ref a5, .ref a6, .ref a7, .ref a8, .ref a9, .ref a10, .ref a11])), (a2, .inr (10, [.ref a12, .ref a13, .ref a14, .ref a15, .ref a16, .int 0, .int 0]))]) hD hS hA [0, 1] rfl
    refine vx_calli (vx_runV (As := [.int p1, .int p2]) (rest := []) ⟨hx, hb, hml, hown, hts⟩ (xnX11_timeOfChange l hst dC dI T a1 a2 a3 a4 a5 a6 a7 a8 a9 a10 a11 a12 a13 a14 a15 a16 H.size p1 p2) (cwV 2 hts ygX11_nextTime_X11_timeOfChange rfl rfl rfl (by decide +kernel) ⟨Nat.le_of_ble_eq_true rfl, Nat.le_of_ble_eq_true rfl⟩) ⟨xBlind, va_recv hK hPc (ci := 16) (q0 := 0) rfl rfl, xCall hK hG hS hPc hDc hFc⟩ rfl rfl hl.1 rfl (lv_room (Nat.le_of_ble_eq_true rfl)) dX11_nextTime_10 ⟨Nat.le_of_ble_eq_true rfl, Nat.le_of_ble_eq_true rfl⟩) hS (fun q _ h => hFc q h) hFc (fun q _ h => hFc q h) (fun E ce q9 u t H locs ht hvm hw hB hz1 hk1 hS hce hcv hcl => ?_) (fun r_9 u t H locs ht hvm hw hB hz1 hk1 hS => ?_)
    · rcases hB with ⟨hE, hP1, hD1⟩
      subst hE
      rw [ht] at hP1
      obtain ⟨hP, hD⟩ := va_join (wr := []) (w1 := [(a1, .inr (16, [.ref a2, .ref a3, .ref a4, .ref a5, .ref a6, .ref a7, .ref a8, .ref a9, .ref a10, .ref a11])), (a2, .inr (10, [.ref a12, .ref a13, .ref a14, .ref a15, .ref a16, .int 0, .int 0]))]) hP hD [0, 1] [] rfl rfl (by decide) (by decide) hk1 hFc hP1 hD1
      have hP : va_P (dC, dI) vwCl [(a1, .inr (16, [.ref a2, .ref a3, .ref a4, .ref a5, .ref a6, .ref a7, .ref a8, .ref a9, .ref a10, .ref a11])), (a2, .inr (10, [.ref a12, .ref a13, .ref a14, .ref a15, .ref a16, .int 0, .int 0]))] H := hP
      have hD : va_D A [(a1, .inr (16, [.ref a2, .ref a3, .ref a4, .ref a5, .ref a6, .ref a7, .ref a8, .ref a9, .ref a10, .ref a11])), (a2, .inr (10, [.ref a12, .ref a13, .ref a14, .ref a15, .ref a16, .int 0, .int 0]))] := hD
      clear hPc hDc hFc hP1 hD1 hk1 hz1 ht hvm
      have hP9 := hP.sub (ws' := []) [] rfl
      have hD9 := hD.sub (ws' := []) [] (by decide) rfl
      exact vx_out (fun x hx => absurd (hex x hx) id) hlocks hce hcv hcl (fun t ht _ => ⟨(), trivial, (Or.inr (⟨c_2, rfl, by rw [ht]; exact hP9, hD9⟩)), hS.F ht⟩) hS.2.2 (Nat.le_of_ble_eq_true rfl) (Nat.le_of_ble_eq_true rfl)
    · exact absurd hB id
set_option maxHeartbeats 4000000 in
set_option maxRecDepth 100000 in
theorem xnL_nextTime (l : Launch) (hst : l.stackTraces = false) (dC : Nat → ClassId) (dI : Nat → Nat → Nat) (T : Nat → ClassId) (a1 : Nat) (a2 : Nat) (a3 : Nat) (a4 : Nat) (a5 : Nat) (a6 : Nat) (a7 : Nat) (a8 : Nat) (a9 : Nat) (a10 : Nat) (a11 : Nat) (a12 : Nat) (a13 : Nat) (a14 : Nat) (a15 : Nat) (a16 : Nat) (a17 : Nat) (sz : Nat) (p1 : Int32) (p2 : Int32) : Met l yL_nextTime zsL_nextTime ({ frames := 9, cells := 3, slots := 18, locals := 148 } : Room) (va_Pc [.ref a1, .int p1, .int p2, .ref a2] (fun U => xB dC dI T [(a1, .inr (16, [.ref a3, .ref a4, .ref a5, .ref a6, .ref a7, .ref a8, .ref a9, .ref a10, .ref a11, .ref a12])), (a3, .inr (10, [.ref a13, .ref a14, .ref a15, .ref a16, .ref a17, .int 0, .int 0]))] sz U)) (va_Qi (fun (r u : Int32) => r = u) (fun (u : Int32) (t : State) => ((((p1.toInt < -100) ∨ ((¬ (p1.toInt < -100)) ∧ (¬ (p1.toInt ≤ 100)))) ∨ (((¬ (p1.toInt < -100)) ∧ (p1.toInt ≤ 100)) ∧ ((p2.toInt < -100) ∨ ((¬ (p2.toInt < -100)) ∧ (¬ (p2.toInt ≤ 100)))))) ∧ 1 = u ∧ xE dC dI [] (va_A [(a1, .inr (16, [.ref a3, .ref a4, .ref a5, .ref a6, .ref a7, .ref a8, .ref a9, .ref a10, .ref a11, .ref a12])), (a3, .inr (10, [.ref a13, .ref a14, .ref a15, .ref a16, .ref a17, .int 0, .int 0]))] sz) t) ∨ ((((¬ (p1.toInt < -100)) ∧ (p1.toInt ≤ 100)) ∧ ((¬ (p2.toInt < -100)) ∧ (p2.toInt ≤ 100))) ∧ 2 = u ∧ xE dC dI [] (va_A [(a1, .inr (16, [.ref a3, .ref a4, .ref a5, .ref a6, .ref a7, .ref a8, .ref a9, .ref a10, .ref a11, .ref a12])), (a3, .inr (10, [.ref a13, .ref a14, .ref a15, .ref a16, .ref a17, .int 0, .int 0]))] sz) t)) (va_A [(a1, .inr (16, [.ref a3, .ref a4, .ref a5, .ref a6, .ref a7, .ref a8, .ref a9, .ref a10, .ref a11, .ref a12])), (a3, .inr (10, [.ref a13, .ref a14, .ref a15, .ref a16, .ref a17, .int 0, .int 0]))] sz)) 3 18 (va_A [(a1, .inr (16, [.ref a3, .ref a4, .ref a5, .ref a6, .ref a7, .ref a8, .ref a9, .ref a10, .ref a11, .ref a12])), (a3, .inr (10, [.ref a13, .ref a14, .ref a15, .ref a16, .ref a17, .int 0, .int 0]))] sz) := by
  refine va_MetW (cc := cL_nextTime) (maxL := 5) (ret := (some .int)) (hh := [(0, 10, 13, 13), (0, 10, 17, 35)]) (by decide +kernel) rfl ?_
  intro p e s m args below meth c s₁ B hml hv
  obtain ⟨rfl, hsz, hP, hK, hD0, hG⟩ := hv
  have hx := B.exec
  have hb := B.bytes
  have hr := B.returns
  have hts := atoms_spec (ws := zsL_nextTime) B.pre
  have hown : s.vm.findClass RL = some m.cls := findClass_of_methodNamed B.named
  have hlocks := B.notSynchronized
  have htab := vx_table (x := yL_nextTime) B (hts (.codeWith yL_nextTime cL_nextTime 5 (some .int) [(0, 10, 13, 13), (0, 10, 17, 35)]) (by decide +kernel))
  subst hsz
  have hD := hD0.self (sz := s.heap.size)
  generalize hAe : va_A [(a1, .inr (16, [.ref a3, .ref a4, .ref a5, .ref a6, .ref a7, .ref a8, .ref a9, .ref a10, .ref a11, .ref a12])), (a3, .inr (10, [.ref a13, .ref a14, .ref a15, .ref a16, .ref a17, .int 0, .int 0]))] s.heap.size = A at hD hG ⊢
  have hA : ∀ q : Nat, s.heap.size ≤ q → A q := fun q h => by rw [← hAe]; exact Or.inr h
  have hS : va_S A s.heap s.heap [] := va_S.rf
  have hl := lv_entry ([.ref a1, .int p1, .int p2, .ref a2]) (n := 5) (Nat.le_of_ble_eq_true rfl)
  rw [lg_entry_eq]
  generalize (lg_sl ([.ref a1, .int p1, .int p2, .ref a2]) ++ List.replicate (5 - (lg_sl ([.ref a1, .int p1, .int p2, .ref a2])).length) Slot.unset).toArray = ls at hl ⊢
  have hl : lv_has ls 5 [(0, .ref a1), (1, .int p1), (2, .int p2), (3, .ref a2)] := hl
  refine lv_aload_n hx hb dL_nextTime_0 rfl (lv_at hl 3 rfl) ?_
  refine lv_iconst (v := 0) hx hb dL_nextTime_1 (by decide) ?_
  refine lv_aload_n hx hb dL_nextTime_2 rfl (lv_at hl 0 rfl) ?_
  refine lv_iload_n hx hb dL_nextTime_3 rfl (lv_at hl 1 rfl) ?_
  refine lv_iload_n hx hb dL_nextTime_4 rfl (lv_at hl 2 rfl) ?_
  have hPc := hP.sub (ws' := [(a1, .inr (16, [.ref a3, .ref a4, .ref a5, .ref a6, .ref a7, .ref a8, .ref a9, .ref a10, .ref a11, .ref a12])), (a3, .inr (10, [.ref a13, .ref a14, .ref a15, .ref a16, .ref a17, .int 0, .int 0]))]) [0, 1] rfl
  have hDc := hD.sub (ws' := [(a1, .inr (16, [.ref a3, .ref a4, .ref a5, .ref a6, .ref a7, .ref a8, .ref a9, .ref a10, .ref a11, .ref a12])), (a3, .inr (10, [.ref a13, .ref a14, .ref a15, .ref a16, .ref a17, .int 0, .int 0]))]) [0, 1] (by decide) rfl
  have hFc := va_free (wc := [(a1, .inr (16, [.ref a3, .ref a4, .ref a5, .ref a6, .ref a7, .ref a8, .ref a9, .ref a10, .ref a11, .ref a12])), (a3, .inr (10, [.ref a13, .ref a14, .ref a15, .ref a16, .ref a17, .int 0, .int 0]))]) hD hS hA [0, 1] rfl
  refine vx_calli (vx_runV (As := [.int p1, .int p2]) (rest := [.int 0, .ref a2]) ⟨hx, hb, hml, hown, hts⟩ (xnX11_nextTime l hst dC dI T a1 a3 a4 a5 a6 a7 a8 a9 a10 a11 a12 a13 a14 a15 a16 a17 s.heap.size p1 p2) (cwV 2 hts ygL_nextTime_X11_nextTime rfl rfl rfl (by decide +kernel) ⟨Nat.le_of_ble_eq_true rfl, Nat.le_of_ble_eq_true rfl⟩) ⟨xBlind, va_recv hK hPc (ci := 16) (q0 := 0) rfl rfl, xCall hK hG hS hPc hDc hFc⟩ rfl rfl hl.1 rfl (lv_room (Nat.le_of_ble_eq_true rfl)) dL_nextTime_5 ⟨Nat.le_of_ble_eq_true rfl, Nat.le_of_ble_eq_true rfl⟩) hS (fun q _ h => hFc q h) hFc (fun q _ h => hFc q h) (fun E ce q9 u t H locs ht hvm hw hB hz1 hk1 hS hce hcv hcl => ?_) (fun r_9 u t H locs ht hvm hw hB hz1 hk1 hS => ?_)
  · rcases hB with ⟨c_1, hE, hP1, hD1⟩ | ⟨c_2, hE, hP1, hD1⟩
    · subst hE
      rw [ht] at hP1
      obtain ⟨hP, hD⟩ := va_join (wr := []) (w1 := []) hP hD [0, 1] [] rfl rfl (by decide) (by decide) hk1 hFc hP1 hD1
      have hP : va_P (dC, dI) vwCl [] H := hP
      have hD : va_D A [] := hD
      clear hPc hDc hFc hP1 hD1 hk1 hz1 ht hvm
      refine vx_catch (E := "java/lang/IllegalArgumentException") (name := "java/lang/IllegalArgumentException") hown [] ⟨0, 10, 13, 13⟩ [⟨0, 10, 17, 35⟩] (htab.trans rfl) (fun _ h => absurd h List.not_mem_nil) (by decide) (by decide) (hts (.classLink RL 13 "java/lang/IllegalArgumentException") (by decide +kernel)) (xBad_use hG.2.2.2.1 _ (by decide +kernel)) hce hcv hcl ?_
      refine lv_astore (lv' := [(4, .ref q9), (0, .ref a1), (1, .int p1), (2, .int p2), (3, .ref a2)]) hx hb dL_nextTime_13 hl (by decide) rfl (fun ls hl => ?_)
      refine lv_iconst (v := 1) hx hb dL_nextTime_15 (by decide) ?_
      have hP9 := hP.sub (ws' := []) [] rfl
      have hD9 := hD.sub (ws' := []) [] (by decide) rfl
      exact W.iret (v := 1) hx hb hr (fun t ht hW => ⟨⟨_, _, rfl, rfl, (Or.inl ⟨c_1, rfl, by rw [ht]; exact hP9, hD9⟩)⟩, hS.F ht⟩) hS.2.2 dL_nextTime_16
    · subst hE
      rw [ht] at hP1
      obtain ⟨hP, hD⟩ := va_join (wr := []) (w1 := []) hP hD [0, 1] [] rfl rfl (by decide) (by decide) hk1 hFc hP1 hD1
      have hP : va_P (dC, dI) vwCl [] H := hP
      have hD : va_D A [] := hD
      clear hPc hDc hFc hP1 hD1 hk1 hz1 ht hvm
      refine vx_catch (E := "java/util/NoSuchElementException") (name := "java/util/NoSuchElementException") hown [⟨0, 10, 13, 13⟩] ⟨0, 10, 17, 35⟩ [] (htab.trans rfl) (List.forall_mem_cons.mpr ⟨(Or.inr ⟨by decide, "java/lang/IllegalArgumentException", hts (.classLink RL 13 "java/lang/IllegalArgumentException") (by decide +kernel), (hG.2.2.2.2.2.2.2.2.2.2.2.2.1 ("java/util/NoSuchElementException", "java/lang/IllegalArgumentException") (List.mem_of_getElem? (i := 10) rfl))⟩), (fun _ h => absurd h List.not_mem_nil)⟩) (by decide) (by decide) (hts (.classLink RL 35 "java/util/NoSuchElementException") (by decide +kernel)) (xBad_use hG.2.2.2.1 _ (by decide +kernel)) hce hcv hcl ?_
      refine lv_astore (lv' := [(4, .ref q9), (0, .ref a1), (1, .int p1), (2, .int p2), (3, .ref a2)]) hx hb dL_nextTime_17 hl (by decide) rfl (fun ls hl => ?_)
      refine lv_iconst (v := 2) hx hb dL_nextTime_19 (by decide) ?_
      have hP9 := hP.sub (ws' := []) [] rfl
      have hD9 := hD.sub (ws' := []) [] (by decide) rfl
      exact W.iret (v := 2) hx hb hr (fun t ht hW => ⟨⟨_, _, rfl, rfl, (Or.inr (⟨c_2, rfl, by rw [ht]; exact hP9, hD9⟩))⟩, hS.F ht⟩) hS.2.2 dL_nextTime_20
  · exact absurd hB id
set_option maxHeartbeats 4000000 in
set_option maxRecDepth 100000 in
theorem xnX11_pointAt (l : Launch) (hst : l.stackTraces = false) (dC : Nat → ClassId) (dI : Nat → Nat → Nat) (T : Nat → ClassId) (a1 : Nat) (a2 : Nat) (a3 : Nat) (a4 : Nat) (a5 : Nat) (a6 : Nat) (a7 : Nat) (a8 : Nat) (a9 : Nat) (a10 : Nat) (a11 : Nat) (a12 : Nat) (a13 : Nat) (a14 : Nat) (a15 : Nat) (a16 : Nat) (sz : Nat) (p1 : Int32) (p2 : Int32) : vx_Met l yX11_pointAt zsX11_pointAt ({ frames := 6, cells := 1, slots := 6, locals := 82 } : Room) (va_Pc [.ref a1, .int p1, .int p2] (fun U => xB dC dI T [(a1, .inr (16, [.ref a2, .ref a3, .ref a4, .ref a5, .ref a6, .ref a7, .ref a8, .ref a9, .ref a10, .ref a11])), (a2, .inr (10, [.ref a12, .ref a13, .ref a14, .ref a15, .ref a16, .int 0, .int 0]))] sz U)) (va_Qi (fun (r u : Int32) => r = u) (fun (u : Int32) (t : State) => False) (va_A [(a1, .inr (16, [.ref a2, .ref a3, .ref a4, .ref a5, .ref a6, .ref a7, .ref a8, .ref a9, .ref a10, .ref a11])), (a2, .inr (10, [.ref a12, .ref a13, .ref a14, .ref a15, .ref a16, .int 0, .int 0]))] sz)) (vx_X (fun _ : Unit => True) (fun (E : String) (_ : Unit) (t : State) => E = "java/util/NoSuchElementException" ∧ xE dC dI [] (va_A [(a1, .inr (16, [.ref a2, .ref a3, .ref a4, .ref a5, .ref a6, .ref a7, .ref a8, .ref a9, .ref a10, .ref a11])), (a2, .inr (10, [.ref a12, .ref a13, .ref a14, .ref a15, .ref a16, .int 0, .int 0]))] sz) t) (va_A [(a1, .inr (16, [.ref a2, .ref a3, .ref a4, .ref a5, .ref a6, .ref a7, .ref a8, .ref a9, .ref a10, .ref a11])), (a2, .inr (10, [.ref a12, .ref a13, .ref a14, .ref a15, .ref a16, .int 0, .int 0]))] sz)) 1 6 (va_A [(a1, .inr (16, [.ref a2, .ref a3, .ref a4, .ref a5, .ref a6, .ref a7, .ref a8, .ref a9, .ref a10, .ref a11])), (a2, .inr (10, [.ref a12, .ref a13, .ref a14, .ref a15, .ref a16, .int 0, .int 0]))] sz) := by
  refine vx_ofW (cc := cX11_pointAt) (maxL := 4) (ret := (some .int)) (by decide +kernel) rfl ?_
  intro p e s m args below meth c s₁ B hml hex hv
  obtain ⟨rfl, hsz, hP, hK, hD0, hG⟩ := hv
  have hx := B.exec
  have hb := B.bytes
  have hr := B.returns
  have hts := atoms_spec (ws := zsX11_pointAt) B.pre
  have hown : s.vm.findClass RX11 = some m.cls := findClass_of_methodNamed B.named
  have hlocks := B.notSynchronized
  have hin_X11 : ∀ w ∈ wsX110, w ∈ zsX11_pointAt := by decide +kernel
  have hm_140 : ∀ w ∈ (yAt RX11 140).filter goodWord, w ∈ zsX11_pointAt := by decide +kernel
  have hat_140 : ∀ w ∈ yAt RX11 140, w.before (#[.ref a1, .int p1, .int p2] : Array Value) s = true := vx_hat (B := xBad) (fun w hw => hts w (hm_140 w hw)) (by decide +kernel) (xBad_use hG.2.2.2.1)
  subst hsz
  have hD := hD0.self (sz := s.heap.size)
  generalize hAe : va_A [(a1, .inr (16, [.ref a2, .ref a3, .ref a4, .ref a5, .ref a6, .ref a7, .ref a8, .ref a9, .ref a10, .ref a11])), (a2, .inr (10, [.ref a12, .ref a13, .ref a14, .ref a15, .ref a16, .int 0, .int 0]))] s.heap.size = A at hD hG ⊢
  have hA : ∀ q : Nat, s.heap.size ≤ q → A q := fun q h => by rw [← hAe]; exact Or.inr h
  have hS : va_S A s.heap s.heap [] := va_S.rf
  have hl := lv_entry ([.ref a1, .int p1, .int p2]) (n := 4) (Nat.le_of_ble_eq_true rfl)
  rw [lg_entry_eq]
  generalize (lg_sl ([.ref a1, .int p1, .int p2]) ++ List.replicate (4 - (lg_sl ([.ref a1, .int p1, .int p2])).length) Slot.unset).toArray = ls at hl ⊢
  have hl : lv_has ls 4 [(0, .ref a1), (1, .int p1), (2, .int p2)] := hl
  refine lv_aload_n hx hb dX11_pointAt_0 rfl (lv_at hl 0 rfl) ?_
  refine va_get (D := (dC, dI)) (ci := 16) (v := .ref a2) (C := RX11) (T := TX11) (N := 10) hx hb hts hin_X11 hown hK hP 0 rfl rfl 0 (by decide) (hts (.fieldLink RX11 12 "Nearestward" "ground" "LNearestward$Ground;") (by decide +kernel)) (fun _ h9 => h9) rfl dX11_pointAt_1 ?_
  refine lv_iload_n hx hb dX11_pointAt_4 rfl (lv_at hl 1 rfl) ?_
  refine lv_iload_n hx hb dX11_pointAt_5 rfl (lv_at hl 2 rfl) ?_
  have hPc := hP.sub (ws' := [(a2, .inr (10, [.ref a12, .ref a13, .ref a14, .ref a15, .ref a16, .int 0, .int 0]))]) [1] rfl
  have hDc := hD.sub (ws' := [(a2, .inr (10, [.ref a12, .ref a13, .ref a14, .ref a15, .ref a16, .int 0, .int 0]))]) [1] (by decide) rfl
  have hFc := va_free (wc := [(a2, .inr (10, [.ref a12, .ref a13, .ref a14, .ref a15, .ref a16, .int 0, .int 0]))]) hD hS hA [1] rfl
  refine va_calli (va_runV (As := [.int p1, .int p2]) (rest := []) ⟨hx, hb, hml, hown, hts⟩ (xcX5_numberAt l hst dC dI T a2 a12 a13 a14 a15 a16 s.heap.size p1 p2) (cwV 2 hts ygX11_pointAt_X5_numberAt rfl rfl rfl (by decide +kernel) ⟨Nat.le_of_ble_eq_true rfl, Nat.le_of_ble_eq_true rfl⟩) ⟨xBlind, va_recv hK hPc (ci := 10) (q0 := 0) rfl rfl, xCall hK hG hS hPc hDc hFc⟩ rfl rfl hl.1 rfl (lv_room (Nat.le_of_ble_eq_true rfl)) dX11_pointAt_6 ⟨Nat.le_of_ble_eq_true rfl, Nat.le_of_ble_eq_true rfl⟩) hS (fun q _ h => hFc q h) hFc (fun r_9 u t H locs ht hvm hw hB hz1 hk1 hS => ?_)
  subst hw
  rcases hB with ⟨hr_9, hP1, hD1⟩
  rw [ht] at hP1
  subst hr_9
  obtain ⟨hP, hD⟩ := va_join (wr := [(a1, .inr (16, [.ref a2, .ref a3, .ref a4, .ref a5, .ref a6, .ref a7, .ref a8, .ref a9, .ref a10, .ref a11]))]) (w1 := [(a2, .inr (10, [.ref a12, .ref a13, .ref a14, .ref a15, .ref a16, .int 0, .int 0]))]) hP hD [1] [0] rfl rfl (by decide) (by decide) hk1 hFc hP1 hD1
  have hP : va_P (dC, dI) vwCl [(a1, .inr (16, [.ref a2, .ref a3, .ref a4, .ref a5, .ref a6, .ref a7, .ref a8, .ref a9, .ref a10, .ref a11])), (a2, .inr (10, [.ref a12, .ref a13, .ref a14, .ref a15, .ref a16, .int 0, .int 0]))] H := hP
  have hD : va_D A [(a1, .inr (16, [.ref a2, .ref a3, .ref a4, .ref a5, .ref a6, .ref a7, .ref a8, .ref a9, .ref a10, .ref a11])), (a2, .inr (10, [.ref a12, .ref a13, .ref a14, .ref a15, .ref a16, .int 0, .int 0]))] := hD
  clear hPc hDc hFc hP1 hD1 hk1 hz1 ht hvm
  refine lv_istore_n (lv' := [(3, .int (-1)), (0, .ref a1), (1, .int p1), (2, .int p2)]) hx hb dX11_pointAt_9 rfl hl (by decide) rfl (fun ls hl => ?_)
  refine lv_iload_n hx hb dX11_pointAt_10 rfl (lv_at hl 0 rfl) ?_
  refine lv_iconst (v := (-1)) hx hb dX11_pointAt_11 (by decide) ?_
  refine lv_icmp_ne (tgt := 25) hx hb dX11_pointAt_12 (by decide) (fun c_2 => absurd c_2 (by decide)) (fun c_2 => ?_)
  obtain ⟨sa, hsa⟩ := hG.2.2.2.2.1 (RX11, 138, "no point is there") (by decide +kernel)
  have hP9 := hP.sub (ws' := []) [] rfl
  have hD9 := hD.sub (ws' := []) [] (by decide) rfl
  exact yThrow (text := "no point is there") (ic := 140) hx hb hst hown (hts (.classLink RX11 136 "java/util/NoSuchElementException") (by decide +kernel)) (hts (.initialized "java/util/NoSuchElementException") (by decide +kernel)) hsa hat_140 (by decide +kernel) hG.1 hG.2.1 hS (by rw [hml]; exact hl.1) 2 dX11_pointAt_15 dX11_pointAt_18 (Or.inl ⟨rfl, dX11_pointAt_19⟩) dX11_pointAt_21 dX11_pointAt_24 (fun x hx => absurd (hex x hx) id) (Nat.le_of_ble_eq_true rfl) (Nat.le_of_ble_eq_true rfl) (Nat.le_of_ble_eq_true rfl) (Nat.le_of_ble_eq_true rfl) hlocks (fun t hvm hz1 hk1 => ⟨(), trivial, ⟨rfl, hP9.kept (fun k x hx => hk1 x.1 ((hP9 k x hx).lt)), hD9⟩, xthrF hS hz1 hk1⟩) hS.2.2 (Nat.le_of_ble_eq_true rfl) (Nat.le_of_ble_eq_true rfl)
set_option maxHeartbeats 4000000 in
set_option maxRecDepth 100000 in
theorem xnL_pointAt (l : Launch) (hst : l.stackTraces = false) (dC : Nat → ClassId) (dI : Nat → Nat → Nat) (T : Nat → ClassId) (a1 : Nat) (a2 : Nat) (a3 : Nat) (a4 : Nat) (a5 : Nat) (a6 : Nat) (a7 : Nat) (a8 : Nat) (a9 : Nat) (a10 : Nat) (a11 : Nat) (a12 : Nat) (a13 : Nat) (a14 : Nat) (a15 : Nat) (a16 : Nat) (a17 : Nat) (sz : Nat) (p1 : Int32) (p2 : Int32) : Met l yL_pointAt zsL_pointAt ({ frames := 7, cells := 1, slots := 6, locals := 105 } : Room) (va_Pc [.ref a1, .int p1, .int p2, .ref a2] (fun U => xB dC dI T [(a1, .inr (16, [.ref a3, .ref a4, .ref a5, .ref a6, .ref a7, .ref a8, .ref a9, .ref a10, .ref a11, .ref a12])), (a3, .inr (10, [.ref a13, .ref a14, .ref a15, .ref a16, .ref a17, .int 0, .int 0]))] sz U)) (va_Qi (fun (r u : Int32) => r = u) (fun (u : Int32) (t : State) => 1 = u ∧ xE dC dI [] (va_A [(a1, .inr (16, [.ref a3, .ref a4, .ref a5, .ref a6, .ref a7, .ref a8, .ref a9, .ref a10, .ref a11, .ref a12])), (a3, .inr (10, [.ref a13, .ref a14, .ref a15, .ref a16, .ref a17, .int 0, .int 0]))] sz) t) (va_A [(a1, .inr (16, [.ref a3, .ref a4, .ref a5, .ref a6, .ref a7, .ref a8, .ref a9, .ref a10, .ref a11, .ref a12])), (a3, .inr (10, [.ref a13, .ref a14, .ref a15, .ref a16, .ref a17, .int 0, .int 0]))] sz)) 1 6 (va_A [(a1, .inr (16, [.ref a3, .ref a4, .ref a5, .ref a6, .ref a7, .ref a8, .ref a9, .ref a10, .ref a11, .ref a12])), (a3, .inr (10, [.ref a13, .ref a14, .ref a15, .ref a16, .ref a17, .int 0, .int 0]))] sz) := by
  refine va_MetW (cc := cL_pointAt) (maxL := 5) (ret := (some .int)) (hh := [(0, 10, 13, 35)]) (by decide +kernel) rfl ?_
  intro p e s m args below meth c s₁ B hml hv
  obtain ⟨rfl, hsz, hP, hK, hD0, hG⟩ := hv
  have hx := B.exec
  have hb := B.bytes
  have hr := B.returns
  have hts := atoms_spec (ws := zsL_pointAt) B.pre
  have hown : s.vm.findClass RL = some m.cls := findClass_of_methodNamed B.named
  have hlocks := B.notSynchronized
  have htab := vx_table (x := yL_pointAt) B (hts (.codeWith yL_pointAt cL_pointAt 5 (some .int) [(0, 10, 13, 35)]) (by decide +kernel))
  subst hsz
  have hD := hD0.self (sz := s.heap.size)
  generalize hAe : va_A [(a1, .inr (16, [.ref a3, .ref a4, .ref a5, .ref a6, .ref a7, .ref a8, .ref a9, .ref a10, .ref a11, .ref a12])), (a3, .inr (10, [.ref a13, .ref a14, .ref a15, .ref a16, .ref a17, .int 0, .int 0]))] s.heap.size = A at hD hG ⊢
  have hA : ∀ q : Nat, s.heap.size ≤ q → A q := fun q h => by rw [← hAe]; exact Or.inr h
  have hS : va_S A s.heap s.heap [] := va_S.rf
  have hl := lv_entry ([.ref a1, .int p1, .int p2, .ref a2]) (n := 5) (Nat.le_of_ble_eq_true rfl)
  rw [lg_entry_eq]
  generalize (lg_sl ([.ref a1, .int p1, .int p2, .ref a2]) ++ List.replicate (5 - (lg_sl ([.ref a1, .int p1, .int p2, .ref a2])).length) Slot.unset).toArray = ls at hl ⊢
  have hl : lv_has ls 5 [(0, .ref a1), (1, .int p1), (2, .int p2), (3, .ref a2)] := hl
  refine lv_aload_n hx hb dL_pointAt_0 rfl (lv_at hl 3 rfl) ?_
  refine lv_iconst (v := 0) hx hb dL_pointAt_1 (by decide) ?_
  refine lv_aload_n hx hb dL_pointAt_2 rfl (lv_at hl 0 rfl) ?_
  refine lv_iload_n hx hb dL_pointAt_3 rfl (lv_at hl 1 rfl) ?_
  refine lv_iload_n hx hb dL_pointAt_4 rfl (lv_at hl 2 rfl) ?_
  have hPc := hP.sub (ws' := [(a1, .inr (16, [.ref a3, .ref a4, .ref a5, .ref a6, .ref a7, .ref a8, .ref a9, .ref a10, .ref a11, .ref a12])), (a3, .inr (10, [.ref a13, .ref a14, .ref a15, .ref a16, .ref a17, .int 0, .int 0]))]) [0, 1] rfl
  have hDc := hD.sub (ws' := [(a1, .inr (16, [.ref a3, .ref a4, .ref a5, .ref a6, .ref a7, .ref a8, .ref a9, .ref a10, .ref a11, .ref a12])), (a3, .inr (10, [.ref a13, .ref a14, .ref a15, .ref a16, .ref a17, .int 0, .int 0]))]) [0, 1] (by decide) rfl
  have hFc := va_free (wc := [(a1, .inr (16, [.ref a3, .ref a4, .ref a5, .ref a6, .ref a7, .ref a8, .ref a9, .ref a10, .ref a11, .ref a12])), (a3, .inr (10, [.ref a13, .ref a14, .ref a15, .ref a16, .ref a17, .int 0, .int 0]))]) hD hS hA [0, 1] rfl
  refine vx_calli (vx_runV (As := [.int p1, .int p2]) (rest := [.int 0, .ref a2]) ⟨hx, hb, hml, hown, hts⟩ (xnX11_pointAt l hst dC dI T a1 a3 a4 a5 a6 a7 a8 a9 a10 a11 a12 a13 a14 a15 a16 a17 s.heap.size p1 p2) (cwV 2 hts ygL_pointAt_X11_pointAt rfl rfl rfl (by decide +kernel) ⟨Nat.le_of_ble_eq_true rfl, Nat.le_of_ble_eq_true rfl⟩) ⟨xBlind, va_recv hK hPc (ci := 16) (q0 := 0) rfl rfl, xCall hK hG hS hPc hDc hFc⟩ rfl rfl hl.1 rfl (lv_room (Nat.le_of_ble_eq_true rfl)) dL_pointAt_5 ⟨Nat.le_of_ble_eq_true rfl, Nat.le_of_ble_eq_true rfl⟩) hS (fun q _ h => hFc q h) hFc (fun q _ h => hFc q h) (fun E ce q9 u t H locs ht hvm hw hB hz1 hk1 hS hce hcv hcl => ?_) (fun r_9 u t H locs ht hvm hw hB hz1 hk1 hS => ?_)
  · rcases hB with ⟨hE, hP1, hD1⟩
    subst hE
    rw [ht] at hP1
    obtain ⟨hP, hD⟩ := va_join (wr := []) (w1 := []) hP hD [0, 1] [] rfl rfl (by decide) (by decide) hk1 hFc hP1 hD1
    have hP : va_P (dC, dI) vwCl [] H := hP
    have hD : va_D A [] := hD
    clear hPc hDc hFc hP1 hD1 hk1 hz1 ht hvm
    refine vx_catch (E := "java/util/NoSuchElementException") (name := "java/util/NoSuchElementException") hown [] ⟨0, 10, 13, 35⟩ [] (htab.trans rfl) (fun _ h => absurd h List.not_mem_nil) (by decide) (by decide) (hts (.classLink RL 35 "java/util/NoSuchElementException") (by decide +kernel)) (xBad_use hG.2.2.2.1 _ (by decide +kernel)) hce hcv hcl ?_
    refine lv_astore (lv' := [(4, .ref q9), (0, .ref a1), (1, .int p1), (2, .int p2), (3, .ref a2)]) hx hb dL_pointAt_13 hl (by decide) rfl (fun ls hl => ?_)
    refine lv_iconst (v := 1) hx hb dL_pointAt_15 (by decide) ?_
    have hP9 := hP.sub (ws' := []) [] rfl
    have hD9 := hD.sub (ws' := []) [] (by decide) rfl
    exact W.iret (v := 1) hx hb hr (fun t ht hW => ⟨⟨_, _, rfl, rfl, ⟨rfl, by rw [ht]; exact hP9, hD9⟩⟩, hS.F ht⟩) hS.2.2 dL_pointAt_16
  · exact absurd hB id
set_option maxHeartbeats 4000000 in
set_option maxRecDepth 100000 in
theorem xnX11_steps (l : Launch) (hst : l.stackTraces = false) (dC : Nat → ClassId) (dI : Nat → Nat → Nat) (T : Nat → ClassId) (a1 : Nat) (a2 : Nat) (a3 : Nat) (a4 : Nat) (a5 : Nat) (a6 : Nat) (a7 : Nat) (a8 : Nat) (a9 : Nat) (a10 : Nat) (a11 : Nat) (a12 : Nat) (a13 : Nat) (a14 : Nat) (a15 : Nat) (a16 : Nat) (sz : Nat) (p1 : Int32) (p2 : Int32) : vx_Met l yX11_steps zsX11_steps ({ frames := 7, cells := 1, slots := 6, locals := 103 } : Room) (va_Pc [.ref a1, .int p1, .int p2] (fun U => xB dC dI T [(a1, .inr (16, [.ref a2, .ref a3, .ref a4, .ref a5, .ref a6, .ref a7, .ref a8, .ref a9, .ref a10, .ref a11])), (a2, .inr (10, [.ref a12, .ref a13, .ref a14, .ref a15, .ref a16, .int 0, .int 0]))] sz U)) (va_Qi (fun (r u : Int32) => r = u) (fun (u : Int32) (t : State) => False) (va_A [(a1, .inr (16, [.ref a2, .ref a3, .ref a4, .ref a5, .ref a6, .ref a7, .ref a8, .ref a9, .ref a10, .ref a11])), (a2, .inr (10, [.ref a12, .ref a13, .ref a14, .ref a15, .ref a16, .int 0, .int 0]))] sz)) (vx_X (fun _ : Unit => True) (fun (E : String) (_ : Unit) (t : State) => E = "java/lang/IndexOutOfBoundsException" ∧ xE dC dI [] (va_A [(a1, .inr (16, [.ref a2, .ref a3, .ref a4, .ref a5, .ref a6, .ref a7, .ref a8, .ref a9, .ref a10, .ref a11])), (a2, .inr (10, [.ref a12, .ref a13, .ref a14, .ref a15, .ref a16, .int 0, .int 0]))] sz) t) (va_A [(a1, .inr (16, [.ref a2, .ref a3, .ref a4, .ref a5, .ref a6, .ref a7, .ref a8, .ref a9, .ref a10, .ref a11])), (a2, .inr (10, [.ref a12, .ref a13, .ref a14, .ref a15, .ref a16, .int 0, .int 0]))] sz)) 1 6 (va_A [(a1, .inr (16, [.ref a2, .ref a3, .ref a4, .ref a5, .ref a6, .ref a7, .ref a8, .ref a9, .ref a10, .ref a11])), (a2, .inr (10, [.ref a12, .ref a13, .ref a14, .ref a15, .ref a16, .int 0, .int 0]))] sz) := by
  refine vx_ofW (cc := cX11_steps) (maxL := 4) (ret := (some .int)) (by decide +kernel) rfl ?_
  intro p e s m args below meth c s₁ B hml hex hv
  obtain ⟨rfl, hsz, hP, hK, hD0, hG⟩ := hv
  have hx := B.exec
  have hb := B.bytes
  have hr := B.returns
  have hts := atoms_spec (ws := zsX11_steps) B.pre
  have hown : s.vm.findClass RX11 = some m.cls := findClass_of_methodNamed B.named
  have hlocks := B.notSynchronized
  subst hsz
  have hD := hD0.self (sz := s.heap.size)
  generalize hAe : va_A [(a1, .inr (16, [.ref a2, .ref a3, .ref a4, .ref a5, .ref a6, .ref a7, .ref a8, .ref a9, .ref a10, .ref a11])), (a2, .inr (10, [.ref a12, .ref a13, .ref a14, .ref a15, .ref a16, .int 0, .int 0]))] s.heap.size = A at hD hG ⊢
  have hA : ∀ q : Nat, s.heap.size ≤ q → A q := fun q h => by rw [← hAe]; exact Or.inr h
  have hS : va_S A s.heap s.heap [] := va_S.rf
  have hl := lv_entry ([.ref a1, .int p1, .int p2]) (n := 4) (Nat.le_of_ble_eq_true rfl)
  rw [lg_entry_eq]
  generalize (lg_sl ([.ref a1, .int p1, .int p2]) ++ List.replicate (4 - (lg_sl ([.ref a1, .int p1, .int p2])).length) Slot.unset).toArray = ls at hl ⊢
  have hl : lv_has ls 4 [(0, .ref a1), (1, .int p1), (2, .int p2)] := hl
  refine lv_aload_n hx hb dX11_steps_0 rfl (lv_at hl 0 rfl) ?_
  refine lv_iload_n hx hb dX11_steps_1 rfl (lv_at hl 1 rfl) ?_
  have hPc := hP.sub (ws' := [(a1, .inr (16, [.ref a2, .ref a3, .ref a4, .ref a5, .ref a6, .ref a7, .ref a8, .ref a9, .ref a10, .ref a11])), (a2, .inr (10, [.ref a12, .ref a13, .ref a14, .ref a15, .ref a16, .int 0, .int 0]))]) [0, 1] rfl
  have hDc := hD.sub (ws' := [(a1, .inr (16, [.ref a2, .ref a3, .ref a4, .ref a5, .ref a6, .ref a7, .ref a8, .ref a9, .ref a10, .ref a11])), (a2, .inr (10, [.ref a12, .ref a13, .ref a14, .ref a15, .ref a16, .int 0, .int 0]))]) [0, 1] (by decide) rfl
  have hFc := va_free (wc := [(a1, .inr (16, [.ref a2, .ref a3, .ref a4, .ref a5, .ref a6, .ref a7, .ref a8, .ref a9, .ref a10, .ref a11])), (a2, .inr (10, [.ref a12, .ref a13, .ref a14, .ref a15, .ref a16, .int 0, .int 0]))]) hD hS hA [0, 1] rfl
  refine vx_callv (vx_runV (As := [.int p1]) (rest := []) ⟨hx, hb, hml, hown, hts⟩ (xcX11_needPoint l hst dC dI T a1 a2 a3 a4 a5 a6 a7 a8 a9 a10 a11 a12 a13 a14 a15 a16 s.heap.size p1) (cwV 1 hts ygX11_steps_X11_needPoint rfl rfl rfl (by decide +kernel) ⟨Nat.le_of_ble_eq_true rfl, Nat.le_of_ble_eq_true rfl⟩) ⟨xBlind, va_recv hK hPc (ci := 16) (q0 := 0) rfl rfl, xCall hK hG hS hPc hDc hFc⟩ rfl rfl hl.1 rfl (lv_room (Nat.le_of_ble_eq_true rfl)) dX11_steps_2 ⟨Nat.le_of_ble_eq_true rfl, Nat.le_of_ble_eq_true rfl⟩) hS (fun q _ h => hFc q h) hFc (fun q _ h => hFc q h) (fun E ce q9 u t H locs ht hvm hw hB hz1 hk1 hS hce hcv hcl => ?_) (fun u t H locs ht hvm hw hB hz1 hk1 hS => ?_)
  · rcases hB with ⟨hE, hP1, hD1⟩
    subst hE
    rw [ht] at hP1
    obtain ⟨hP, hD⟩ := va_join (wr := []) (w1 := [(a1, .inr (16, [.ref a2, .ref a3, .ref a4, .ref a5, .ref a6, .ref a7, .ref a8, .ref a9, .ref a10, .ref a11])), (a2, .inr (10, [.ref a12, .ref a13, .ref a14, .ref a15, .ref a16, .int 0, .int 0]))]) hP hD [0, 1] [] rfl rfl (by decide) (by decide) hk1 hFc hP1 hD1
    have hP : va_P (dC, dI) vwCl [(a1, .inr (16, [.ref a2, .ref a3, .ref a4, .ref a5, .ref a6, .ref a7, .ref a8, .ref a9, .ref a10, .ref a11])), (a2, .inr (10, [.ref a12, .ref a13, .ref a14, .ref a15, .ref a16, .int 0, .int 0]))] H := hP
    have hD : va_D A [(a1, .inr (16, [.ref a2, .ref a3, .ref a4, .ref a5, .ref a6, .ref a7, .ref a8, .ref a9, .ref a10, .ref a11])), (a2, .inr (10, [.ref a12, .ref a13, .ref a14, .ref a15, .ref a16, .int 0, .int 0]))] := hD
    clear hPc hDc hFc hP1 hD1 hk1 hz1 ht hvm
    have hP9 := hP.sub (ws' := []) [] rfl
    have hD9 := hD.sub (ws' := []) [] (by decide) rfl
    exact vx_out (fun x hx => absurd (hex x hx) id) hlocks hce hcv hcl (fun t ht _ => ⟨(), trivial, ⟨rfl, by rw [ht]; exact hP9, hD9⟩, hS.F ht⟩) hS.2.2 (Nat.le_of_ble_eq_true rfl) (Nat.le_of_ble_eq_true rfl)
  · exact absurd hB id
set_option maxHeartbeats 4000000 in
set_option maxRecDepth 100000 in
theorem xnL_steps (l : Launch) (hst : l.stackTraces = false) (dC : Nat → ClassId) (dI : Nat → Nat → Nat) (T : Nat → ClassId) (a1 : Nat) (a2 : Nat) (a3 : Nat) (a4 : Nat) (a5 : Nat) (a6 : Nat) (a7 : Nat) (a8 : Nat) (a9 : Nat) (a10 : Nat) (a11 : Nat) (a12 : Nat) (a13 : Nat) (a14 : Nat) (a15 : Nat) (a16 : Nat) (a17 : Nat) (sz : Nat) (p1 : Int32) (p2 : Int32) : Met l yL_steps zsL_steps ({ frames := 8, cells := 1, slots := 6, locals := 126 } : Room) (va_Pc [.ref a1, .int p1, .int p2, .ref a2] (fun U => xB dC dI T [(a1, .inr (16, [.ref a3, .ref a4, .ref a5, .ref a6, .ref a7, .ref a8, .ref a9, .ref a10, .ref a11, .ref a12])), (a3, .inr (10, [.ref a13, .ref a14, .ref a15, .ref a16, .ref a17, .int 0, .int 0]))] sz U)) (va_Qi (fun (r u : Int32) => r = u) (fun (u : Int32) (t : State) => 1 = u ∧ xE dC dI [] (va_A [(a1, .inr (16, [.ref a3, .ref a4, .ref a5, .ref a6, .ref a7, .ref a8, .ref a9, .ref a10, .ref a11, .ref a12])), (a3, .inr (10, [.ref a13, .ref a14, .ref a15, .ref a16, .ref a17, .int 0, .int 0]))] sz) t) (va_A [(a1, .inr (16, [.ref a3, .ref a4, .ref a5, .ref a6, .ref a7, .ref a8, .ref a9, .ref a10, .ref a11, .ref a12])), (a3, .inr (10, [.ref a13, .ref a14, .ref a15, .ref a16, .ref a17, .int 0, .int 0]))] sz)) 1 6 (va_A [(a1, .inr (16, [.ref a3, .ref a4, .ref a5, .ref a6, .ref a7, .ref a8, .ref a9, .ref a10, .ref a11, .ref a12])), (a3, .inr (10, [.ref a13, .ref a14, .ref a15, .ref a16, .ref a17, .int 0, .int 0]))] sz) := by
  refine va_MetW (cc := cL_steps) (maxL := 5) (ret := (some .int)) (hh := [(0, 10, 13, 23), (0, 10, 17, 35)]) (by decide +kernel) rfl ?_
  intro p e s m args below meth c s₁ B hml hv
  obtain ⟨rfl, hsz, hP, hK, hD0, hG⟩ := hv
  have hx := B.exec
  have hb := B.bytes
  have hr := B.returns
  have hts := atoms_spec (ws := zsL_steps) B.pre
  have hown : s.vm.findClass RL = some m.cls := findClass_of_methodNamed B.named
  have hlocks := B.notSynchronized
  have htab := vx_table (x := yL_steps) B (hts (.codeWith yL_steps cL_steps 5 (some .int) [(0, 10, 13, 23), (0, 10, 17, 35)]) (by decide +kernel))
  subst hsz
  have hD := hD0.self (sz := s.heap.size)
  generalize hAe : va_A [(a1, .inr (16, [.ref a3, .ref a4, .ref a5, .ref a6, .ref a7, .ref a8, .ref a9, .ref a10, .ref a11, .ref a12])), (a3, .inr (10, [.ref a13, .ref a14, .ref a15, .ref a16, .ref a17, .int 0, .int 0]))] s.heap.size = A at hD hG ⊢
  have hA : ∀ q : Nat, s.heap.size ≤ q → A q := fun q h => by rw [← hAe]; exact Or.inr h
  have hS : va_S A s.heap s.heap [] := va_S.rf
  have hl := lv_entry ([.ref a1, .int p1, .int p2, .ref a2]) (n := 5) (Nat.le_of_ble_eq_true rfl)
  rw [lg_entry_eq]
  generalize (lg_sl ([.ref a1, .int p1, .int p2, .ref a2]) ++ List.replicate (5 - (lg_sl ([.ref a1, .int p1, .int p2, .ref a2])).length) Slot.unset).toArray = ls at hl ⊢
  have hl : lv_has ls 5 [(0, .ref a1), (1, .int p1), (2, .int p2), (3, .ref a2)] := hl
  refine lv_aload_n hx hb dL_steps_0 rfl (lv_at hl 3 rfl) ?_
  refine lv_iconst (v := 0) hx hb dL_steps_1 (by decide) ?_
  refine lv_aload_n hx hb dL_steps_2 rfl (lv_at hl 0 rfl) ?_
  refine lv_iload_n hx hb dL_steps_3 rfl (lv_at hl 1 rfl) ?_
  refine lv_iload_n hx hb dL_steps_4 rfl (lv_at hl 2 rfl) ?_
  have hPc := hP.sub (ws' := [(a1, .inr (16, [.ref a3, .ref a4, .ref a5, .ref a6, .ref a7, .ref a8, .ref a9, .ref a10, .ref a11, .ref a12])), (a3, .inr (10, [.ref a13, .ref a14, .ref a15, .ref a16, .ref a17, .int 0, .int 0]))]) [0, 1] rfl
  have hDc := hD.sub (ws' := [(a1, .inr (16, [.ref a3, .ref a4, .ref a5, .ref a6, .ref a7, .ref a8, .ref a9, .ref a10, .ref a11, .ref a12])), (a3, .inr (10, [.ref a13, .ref a14, .ref a15, .ref a16, .ref a17, .int 0, .int 0]))]) [0, 1] (by decide) rfl
  have hFc := va_free (wc := [(a1, .inr (16, [.ref a3, .ref a4, .ref a5, .ref a6, .ref a7, .ref a8, .ref a9, .ref a10, .ref a11, .ref a12])), (a3, .inr (10, [.ref a13, .ref a14, .ref a15, .ref a16, .ref a17, .int 0, .int 0]))]) hD hS hA [0, 1] rfl
  refine vx_calli (vx_runV (As := [.int p1, .int p2]) (rest := [.int 0, .ref a2]) ⟨hx, hb, hml, hown, hts⟩ (xnX11_steps l hst dC dI T a1 a3 a4 a5 a6 a7 a8 a9 a10 a11 a12 a13 a14 a15 a16 a17 s.heap.size p1 p2) (cwV 2 hts ygL_steps_X11_steps rfl rfl rfl (by decide +kernel) ⟨Nat.le_of_ble_eq_true rfl, Nat.le_of_ble_eq_true rfl⟩) ⟨xBlind, va_recv hK hPc (ci := 16) (q0 := 0) rfl rfl, xCall hK hG hS hPc hDc hFc⟩ rfl rfl hl.1 rfl (lv_room (Nat.le_of_ble_eq_true rfl)) dL_steps_5 ⟨Nat.le_of_ble_eq_true rfl, Nat.le_of_ble_eq_true rfl⟩) hS (fun q _ h => hFc q h) hFc (fun q _ h => hFc q h) (fun E ce q9 u t H locs ht hvm hw hB hz1 hk1 hS hce hcv hcl => ?_) (fun r_9 u t H locs ht hvm hw hB hz1 hk1 hS => ?_)
  · rcases hB with ⟨hE, hP1, hD1⟩
    subst hE
    rw [ht] at hP1
    obtain ⟨hP, hD⟩ := va_join (wr := []) (w1 := []) hP hD [0, 1] [] rfl rfl (by decide) (by decide) hk1 hFc hP1 hD1
    have hP : va_P (dC, dI) vwCl [] H := hP
    have hD : va_D A [] := hD
    clear hPc hDc hFc hP1 hD1 hk1 hz1 ht hvm
    refine vx_catch (E := "java/lang/IndexOutOfBoundsException") (name := "java/lang/IndexOutOfBoundsException") hown [] ⟨0, 10, 13, 23⟩ [⟨0, 10, 17, 35⟩] (htab.trans rfl) (fun _ h => absurd h List.not_mem_nil) (by decide) (by decide) (hts (.classLink RL 23 "java/lang/IndexOutOfBoundsException") (by decide +kernel)) (xBad_use hG.2.2.2.1 _ (by decide +kernel)) hce hcv hcl ?_
    refine lv_astore (lv' := [(4, .ref q9), (0, .ref a1), (1, .int p1), (2, .int p2), (3, .ref a2)]) hx hb dL_steps_13 hl (by decide) rfl (fun ls hl => ?_)
    refine lv_iconst (v := 1) hx hb dL_steps_15 (by decide) ?_
    have hP9 := hP.sub (ws' := []) [] rfl
    have hD9 := hD.sub (ws' := []) [] (by decide) rfl
    exact W.iret (v := 1) hx hb hr (fun t ht hW => ⟨⟨_, _, rfl, rfl, ⟨rfl, by rw [ht]; exact hP9, hD9⟩⟩, hS.F ht⟩) hS.2.2 dL_steps_16
  · exact absurd hB id
set_option maxHeartbeats 4000000 in
set_option maxRecDepth 100000 in
theorem xnX11_undo (l : Launch) (hst : l.stackTraces = false) (dC : Nat → ClassId) (dI : Nat → Nat → Nat) (T : Nat → ClassId) (a1 : Nat) (a2 : Nat) (a3 : Nat) (a4 : Nat) (a5 : Nat) (a6 : Nat) (a7 : Nat) (a8 : Nat) (a9 : Nat) (a10 : Nat) (a11 : Nat) (a17 : Nat) (sz : Nat) : vx_Met l yX11_undo zsX11_undo ({ frames := 6, cells := 1, slots := 6, locals := 82 } : Room) (va_Pc [.ref a1] (fun U => xB dC dI T [(a1, .inr (16, [.ref a2, .ref a3, .ref a4, .ref a5, .ref a6, .ref a7, .ref a8, .ref a9, .ref a10, .ref a11])), (a3, .inr (11, [.ref a17, .int 0, .int 0]))] sz U)) (va_Qi (fun (r u : Int32) => r = u) (fun (u : Int32) (t : State) => False) (va_A [(a1, .inr (16, [.ref a2, .ref a3, .ref a4, .ref a5, .ref a6, .ref a7, .ref a8, .ref a9, .ref a10, .ref a11])), (a3, .inr (11, [.ref a17, .int 0, .int 0]))] sz)) (vx_X (fun _ : Unit => True) (fun (E : String) (_ : Unit) (t : State) => E = "java/util/NoSuchElementException" ∧ xE dC dI [] (va_A [(a1, .inr (16, [.ref a2, .ref a3, .ref a4, .ref a5, .ref a6, .ref a7, .ref a8, .ref a9, .ref a10, .ref a11])), (a3, .inr (11, [.ref a17, .int 0, .int 0]))] sz) t) (va_A [(a1, .inr (16, [.ref a2, .ref a3, .ref a4, .ref a5, .ref a6, .ref a7, .ref a8, .ref a9, .ref a10, .ref a11])), (a3, .inr (11, [.ref a17, .int 0, .int 0]))] sz)) 1 6 (va_A [(a1, .inr (16, [.ref a2, .ref a3, .ref a4, .ref a5, .ref a6, .ref a7, .ref a8, .ref a9, .ref a10, .ref a11])), (a3, .inr (11, [.ref a17, .int 0, .int 0]))] sz) := by
  refine vx_ofW (cc := cX11_undo) (maxL := 1) (ret := (some .int)) (by decide +kernel) rfl ?_
  intro p e s m args below meth c s₁ B hml hex hv
  obtain ⟨rfl, hsz, hP, hK, hD0, hG⟩ := hv
  have hx := B.exec
  have hb := B.bytes
  have hr := B.returns
  have hts := atoms_spec (ws := zsX11_undo) B.pre
  have hown : s.vm.findClass RX11 = some m.cls := findClass_of_methodNamed B.named
  have hlocks := B.notSynchronized
  have hin_X11 : ∀ w ∈ wsX110, w ∈ zsX11_undo := by decide +kernel
  have hin_X6 : ∀ w ∈ wsX60, w ∈ zsX11_undo := by decide +kernel
  have hm_140 : ∀ w ∈ (yAt RX11 140).filter goodWord, w ∈ zsX11_undo := by decide +kernel
  have hat_140 : ∀ w ∈ yAt RX11 140, w.before (#[.ref a1] : Array Value) s = true := vx_hat (B := xBad) (fun w hw => hts w (hm_140 w hw)) (by decide +kernel) (xBad_use hG.2.2.2.1)
  subst hsz
  have hD := hD0.self (sz := s.heap.size)
  generalize hAe : va_A [(a1, .inr (16, [.ref a2, .ref a3, .ref a4, .ref a5, .ref a6, .ref a7, .ref a8, .ref a9, .ref a10, .ref a11])), (a3, .inr (11, [.ref a17, .int 0, .int 0]))] s.heap.size = A at hD hG ⊢
  have hA : ∀ q : Nat, s.heap.size ≤ q → A q := fun q h => by rw [← hAe]; exact Or.inr h
  have hS : va_S A s.heap s.heap [] := va_S.rf
  have hl := lv_entry ([.ref a1]) (n := 1) (Nat.le_of_ble_eq_true rfl)
  rw [lg_entry_eq]
  generalize (lg_sl ([.ref a1]) ++ List.replicate (1 - (lg_sl ([.ref a1])).length) Slot.unset).toArray = ls at hl ⊢
  have hl : lv_has ls 1 [(0, .ref a1)] := hl
  refine lv_aload_n hx hb dX11_undo_0 rfl (lv_at hl 0 rfl) ?_
  refine va_get (D := (dC, dI)) (ci := 16) (v := .ref a3) (C := RX11) (T := TX11) (N := 10) hx hb hts hin_X11 hown hK hP 0 rfl rfl 1 (by decide) (hts (.fieldLink RX11 19 "Nearestward" "history" "LNearestward$History;") (by decide +kernel)) (fun _ h9 => h9) rfl dX11_undo_1 ?_
  refine va_get (D := (dC, dI)) (ci := 11) (v := .int 0) (C := RX6) (T := TX6) (N := 3) hx hb hts hin_X6 hown hK hP 1 rfl rfl 2 (by decide) (hts (.fieldLink RX11 141 "Nearestward$History" "count" "I") (by decide +kernel)) (fun _ h9 => h9) rfl dX11_undo_4 ?_
  refine lv_if_ne (tgt := 20) hx hb dX11_undo_7 (by decide) (fun c_1 => absurd c_1 (by decide)) (fun c_1 => ?_)
  obtain ⟨sa, hsa⟩ := hG.2.2.2.2.1 (RX11, 144, "no call can be taken back") (by decide +kernel)
  have hP9 := hP.sub (ws' := []) [] rfl
  have hD9 := hD.sub (ws' := []) [] (by decide) rfl
  exact yThrow (text := "no call can be taken back") (ic := 140) hx hb hst hown (hts (.classLink RX11 136 "java/util/NoSuchElementException") (by decide +kernel)) (hts (.initialized "java/util/NoSuchElementException") (by decide +kernel)) hsa hat_140 (by decide +kernel) hG.1 hG.2.1 hS (by rw [hml]; exact hl.1) 2 dX11_undo_10 dX11_undo_13 (Or.inl ⟨rfl, dX11_undo_14⟩) dX11_undo_16 dX11_undo_19 (fun x hx => absurd (hex x hx) id) (Nat.le_of_ble_eq_true rfl) (Nat.le_of_ble_eq_true rfl) (Nat.le_of_ble_eq_true rfl) (Nat.le_of_ble_eq_true rfl) hlocks (fun t hvm hz1 hk1 => ⟨(), trivial, ⟨rfl, hP9.kept (fun k x hx => hk1 x.1 ((hP9 k x hx).lt)), hD9⟩, xthrF hS hz1 hk1⟩) hS.2.2 (Nat.le_of_ble_eq_true rfl) (Nat.le_of_ble_eq_true rfl)
set_option maxHeartbeats 4000000 in
set_option maxRecDepth 100000 in
theorem xnL_undo (l : Launch) (hst : l.stackTraces = false) (dC : Nat → ClassId) (dI : Nat → Nat → Nat) (T : Nat → ClassId) (a1 : Nat) (a2 : Nat) (a3 : Nat) (a4 : Nat) (a5 : Nat) (a6 : Nat) (a7 : Nat) (a8 : Nat) (a9 : Nat) (a10 : Nat) (a11 : Nat) (a12 : Nat) (a18 : Nat) (sz : Nat) : Met l yL_undo zsL_undo ({ frames := 7, cells := 1, slots := 6, locals := 102 } : Room) (va_Pc [.ref a1, .ref a2] (fun U => xB dC dI T [(a1, .inr (16, [.ref a3, .ref a4, .ref a5, .ref a6, .ref a7, .ref a8, .ref a9, .ref a10, .ref a11, .ref a12])), (a4, .inr (11, [.ref a18, .int 0, .int 0]))] sz U)) (va_Qi (fun (r u : Int32) => r = u) (fun (u : Int32) (t : State) => 1 = u ∧ xE dC dI [] (va_A [(a1, .inr (16, [.ref a3, .ref a4, .ref a5, .ref a6, .ref a7, .ref a8, .ref a9, .ref a10, .ref a11, .ref a12])), (a4, .inr (11, [.ref a18, .int 0, .int 0]))] sz) t) (va_A [(a1, .inr (16, [.ref a3, .ref a4, .ref a5, .ref a6, .ref a7, .ref a8, .ref a9, .ref a10, .ref a11, .ref a12])), (a4, .inr (11, [.ref a18, .int 0, .int 0]))] sz)) 1 6 (va_A [(a1, .inr (16, [.ref a3, .ref a4, .ref a5, .ref a6, .ref a7, .ref a8, .ref a9, .ref a10, .ref a11, .ref a12])), (a4, .inr (11, [.ref a18, .int 0, .int 0]))] sz) := by
  refine va_MetW (cc := cL_undo) (maxL := 3) (ret := (some .int)) (hh := [(0, 8, 11, 35)]) (by decide +kernel) rfl ?_
  intro p e s m args below meth c s₁ B hml hv
  obtain ⟨rfl, hsz, hP, hK, hD0, hG⟩ := hv
  have hx := B.exec
  have hb := B.bytes
  have hr := B.returns
  have hts := atoms_spec (ws := zsL_undo) B.pre
  have hown : s.vm.findClass RL = some m.cls := findClass_of_methodNamed B.named
  have hlocks := B.notSynchronized
  have htab := vx_table (x := yL_undo) B (hts (.codeWith yL_undo cL_undo 3 (some .int) [(0, 8, 11, 35)]) (by decide +kernel))
  subst hsz
  have hD := hD0.self (sz := s.heap.size)
  generalize hAe : va_A [(a1, .inr (16, [.ref a3, .ref a4, .ref a5, .ref a6, .ref a7, .ref a8, .ref a9, .ref a10, .ref a11, .ref a12])), (a4, .inr (11, [.ref a18, .int 0, .int 0]))] s.heap.size = A at hD hG ⊢
  have hA : ∀ q : Nat, s.heap.size ≤ q → A q := fun q h => by rw [← hAe]; exact Or.inr h
  have hS : va_S A s.heap s.heap [] := va_S.rf
  have hl := lv_entry ([.ref a1, .ref a2]) (n := 3) (Nat.le_of_ble_eq_true rfl)
  rw [lg_entry_eq]
  generalize (lg_sl ([.ref a1, .ref a2]) ++ List.replicate (3 - (lg_sl ([.ref a1, .ref a2])).length) Slot.unset).toArray = ls at hl ⊢
  have hl : lv_has ls 3 [(0, .ref a1), (1, .ref a2)] := hl
  refine lv_aload_n hx hb dL_undo_0 rfl (lv_at hl 1 rfl) ?_
  refine lv_iconst (v := 0) hx hb dL_undo_1 (by decide) ?_
  refine lv_aload_n hx hb dL_undo_2 rfl (lv_at hl 0 rfl) ?_
  have hPc := hP.sub (ws' := [(a1, .inr (16, [.ref a3, .ref a4, .ref a5, .ref a6, .ref a7, .ref a8, .ref a9, .ref a10, .ref a11, .ref a12])), (a4, .inr (11, [.ref a18, .int 0, .int 0]))]) [0, 1] rfl
  have hDc := hD.sub (ws' := [(a1, .inr (16, [.ref a3, .ref a4, .ref a5, .ref a6, .ref a7, .ref a8, .ref a9, .ref a10, .ref a11, .ref a12])), (a4, .inr (11, [.ref a18, .int 0, .int 0]))]) [0, 1] (by decide) rfl
  have hFc := va_free (wc := [(a1, .inr (16, [.ref a3, .ref a4, .ref a5, .ref a6, .ref a7, .ref a8, .ref a9, .ref a10, .ref a11, .ref a12])), (a4, .inr (11, [.ref a18, .int 0, .int 0]))]) hD hS hA [0, 1] rfl
  refine vx_calli (vx_runV (As := []) (rest := [.int 0, .ref a2]) ⟨hx, hb, hml, hown, hts⟩ (xnX11_undo l hst dC dI T a1 a3 a4 a5 a6 a7 a8 a9 a10 a11 a12 a18 s.heap.size) (cwV 0 hts ygL_undo_X11_undo rfl rfl rfl (by decide +kernel) ⟨Nat.le_of_ble_eq_true rfl, Nat.le_of_ble_eq_true rfl⟩) ⟨xBlind, va_recv hK hPc (ci := 16) (q0 := 0) rfl rfl, xCall hK hG hS hPc hDc hFc⟩ rfl rfl hl.1 rfl (lv_room (Nat.le_of_ble_eq_true rfl)) dL_undo_3 ⟨Nat.le_of_ble_eq_true rfl, Nat.le_of_ble_eq_true rfl⟩) hS (fun q _ h => hFc q h) hFc (fun q _ h => hFc q h) (fun E ce q9 u t H locs ht hvm hw hB hz1 hk1 hS hce hcv hcl => ?_) (fun r_9 u t H locs ht hvm hw hB hz1 hk1 hS => ?_)
  · rcases hB with ⟨hE, hP1, hD1⟩
    subst hE
    rw [ht] at hP1
    obtain ⟨hP, hD⟩ := va_join (wr := []) (w1 := []) hP hD [0, 1] [] rfl rfl (by decide) (by decide) hk1 hFc hP1 hD1
    have hP : va_P (dC, dI) vwCl [] H := hP
    have hD : va_D A [] := hD
    clear hPc hDc hFc hP1 hD1 hk1 hz1 ht hvm
    refine vx_catch (E := "java/util/NoSuchElementException") (name := "java/util/NoSuchElementException") hown [] ⟨0, 8, 11, 35⟩ [] (htab.trans rfl) (fun _ h => absurd h List.not_mem_nil) (by decide) (by decide) (hts (.classLink RL 35 "java/util/NoSuchElementException") (by decide +kernel)) (xBad_use hG.2.2.2.1 _ (by decide +kernel)) hce hcv hcl ?_
    refine lv_astore_n (lv' := [(2, .ref q9), (0, .ref a1), (1, .ref a2)]) hx hb dL_undo_11 rfl hl (by decide) rfl (fun ls hl => ?_)
    refine lv_iconst (v := 1) hx hb dL_undo_12 (by decide) ?_
    have hP9 := hP.sub (ws' := []) [] rfl
    have hD9 := hD.sub (ws' := []) [] (by decide) rfl
    exact W.iret (v := 1) hx hb hr (fun t ht hW => ⟨⟨_, _, rfl, rfl, ⟨rfl, by rw [ht]; exact hP9, hD9⟩⟩, hS.F ht⟩) hS.2.2 dL_undo_13
  · exact absurd hB id
