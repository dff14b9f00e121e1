-- what the start gives: classes, arrays, the facts of the tables that no word of a method bears
theorem xs_len {s : State} {args : Array Value} {t : Term} (h : (Cond.eq t (.int 0)).before args s = true) : t.eval args s none [] s = some (.int (Int32.ofNat 0)) := by
  cases hv : t.eval args s none [] s with
  | none => simp [Cond.before, Cond.holds, Cond.value, hv] at h
  | some v =>
    cases v with
    | int x =>
      have hv2 := Cond.eq_ints (x := x) (y := 0) hv (show (Term.int 0).eval args s none [] s = some (.int 0) from rfl)
      have h2 : x = 0 := by simpa [Cond.before, Cond.holds, hv2] using h
      rw [h2]; rfl
    | _ => simp [Cond.before, Cond.holds, Cond.value, hv, Term.eval] at h
set_option maxRecDepth 100000 in
set_option maxHeartbeats 8000000 in
theorem xs_nest : ∀ w ∈ xNest, w ∈ lw_tbl := by decide +kernel
set_option maxRecDepth 100000 in
set_option maxHeartbeats 8000000 in
theorem xs_bad : ∀ w ∈ xBad, w ∈ lw_tbl := by decide +kernel
set_option maxRecDepth 100000 in
set_option maxHeartbeats 8000000 in
theorem xs_str : ∀ q ∈ xStr, Cond.stringRef q.1 q.2.1 q.2.2 ∈ lw_tbl := by decide +kernel
theorem xs_strc : ∀ q ∈ xStr, q.1 = RX11 := by decide +kernel
def xs_fw (q : MethodName × MethodName) : List Cond := [.declares q.1, .interfaceMethod q.1.cls q.1.cls q.1.name q.1.desc, .publicMethod q.2, .unhidden xList q.1.name q.1.desc, .castable xList q.1.cls]
set_option maxRecDepth 100000 in
set_option maxHeartbeats 8000000 in
theorem xs_fwin : ∀ q ∈ xFw, ∀ w ∈ xs_fw q, w ∈ lw_tbl := by decide +kernel
set_option maxRecDepth 100000 in
set_option maxHeartbeats 8000000 in
theorem xs_nc : ∀ q ∈ xNc, Cond.not (.castable q.1 q.2) ∈ flatC (Jvm.Cond.and given_1 narrow_1) := by decide +kernel
theorem xs_arr {s : State} {args : Array Value} {t : FieldType} (h : (Cond.arrayClass t).before args s = true) : ∃ c : ClassId, ArrOfT s c t ∧ s.vm.findClass ("[" ++ t.toString) = some c := by
  obtain ⟨c, k, comp, h1, h2, h3⟩ := Cond.arrayClass_spec h
  exact ⟨c, fun N z => ⟨(fun k h => by cases h), k, h2, comp, h3⟩, h1⟩
theorem xs_arrA {s : State} {args : Array Value} {t : FieldType} (h : (Cond.arrayOver (.array t)).before args s = true) : ∃ c : ClassId, ArrOfT s c (.array t) ∧ s.vm.findClass ("[" ++ (FieldType.array t).toString) = some c := by
  obtain ⟨comp, c, k, h1, h2, h3, h4, h5⟩ := xAO_spec h
  exact ⟨c, fun N z => ⟨(fun k h => by cases h), k, h3, comp, h4⟩, h5⟩
theorem xs_arrO {s : State} {args : Array Value} {C : String} (h : (Cond.arrayOver (.object C)).before args s = true) : ∃ c : ClassId, ArrOfT s c (.object C) ∧ va_RA s c (.object C) := by
  obtain ⟨comp, c, k, h1, h2, h3, h4, h5⟩ := Cond.arrayOver_spec h
  exact ⟨c, fun N z => ⟨(fun k h => by cases h), k, h3, comp, h4⟩, k, comp, h3, h4, h1, h5⟩
set_option maxRecDepth 100000 in
set_option maxHeartbeats 8000000 in
theorem xs_cls {s : State} {args : Array Value} (hts : ∀ w ∈ lw_tbl, w.before args s = true) : ∃ f : Nat → ClassId × (Nat → Nat), ∀ (k : Nat) (q : vw_C), vwCl[k]? = some q → u_Kn s q.1 q.2.1 q.2.2 (f k).1 (f k).2 := by
  obtain ⟨c0, i0, h0⟩ := u_known (C := RJ0) (T := TJ0) (N := 2) (n := 4) hts inJ0 (hts (.instantiable RJ0 4) (by decide +kernel))
  obtain ⟨c1, i1, h1⟩ := u_known (C := RJ6) (T := TJ6) (N := 1) (n := 1) hts inJ6 (hts (.instantiable RJ6 1) (by decide +kernel))
  obtain ⟨c2, i2, h2⟩ := u_known (C := RJx00060) (T := TJx00060) (N := 6) (n := 6) hts inJx00060 (hts (.instantiable RJx00060 6) (by decide +kernel))
  obtain ⟨c3, i3, h3⟩ := u_known (C := RJx35411) (T := TJx35411) (N := 4) (n := 4) hts inJx35411 (hts (.instantiable RJx35411 4) (by decide +kernel))
  obtain ⟨c4, i4, h4⟩ := u_known (C := RJx4a65c) (T := TJx4a65c) (N := 3) (n := 3) hts inJx4a65c (hts (.instantiable RJx4a65c 3) (by decide +kernel))
  obtain ⟨c5, i5, h5⟩ := u_known (C := RX0) (T := TX0) (N := 2) (n := 2) hts inX0 (hts (.instantiable RX0 2) (by decide +kernel))
  obtain ⟨c6, i6, h6⟩ := u_known (C := RX1) (T := TX1) (N := 3) (n := 3) hts inX1 (hts (.instantiable RX1 3) (by decide +kernel))
  obtain ⟨c7, i7, h7⟩ := u_known (C := RX2) (T := TX2) (N := 1) (n := 1) hts inX2 (hts (.instantiable RX2 1) (by decide +kernel))
  obtain ⟨c8, i8, h8⟩ := u_known (C := RX3) (T := TX3) (N := 4) (n := 4) hts inX3 (hts (.instantiable RX3 4) (by decide +kernel))
  obtain ⟨c9, i9, h9⟩ := u_known (C := RX4) (T := TX4) (N := 4) (n := 4) hts inX4 (hts (.instantiable RX4 4) (by decide +kernel))
  obtain ⟨c10, i10, h10⟩ := u_known (C := RX5) (T := TX5) (N := 7) (n := 7) hts inX5 (hts (.instantiable RX5 7) (by decide +kernel))
  obtain ⟨c11, i11, h11⟩ := u_known (C := RX6) (T := TX6) (N := 3) (n := 3) hts inX6 (hts (.instantiable RX6 3) (by decide +kernel))
  obtain ⟨c12, i12, h12⟩ := u_known (C := RX7) (T := TX7) (N := 2) (n := 2) hts inX7 (hts (.instantiable RX7 2) (by decide +kernel))
  obtain ⟨c13, i13, h13⟩ := u_known (C := RX8) (T := TX8) (N := 2) (n := 2) hts inX8 (hts (.instantiable RX8 2) (by decide +kernel))
  obtain ⟨c14, i14, h14⟩ := u_known (C := RX9) (T := TX9) (N := 3) (n := 3) hts inX9 (hts (.instantiable RX9 3) (by decide +kernel))
  obtain ⟨c15, i15, h15⟩ := u_known (C := RX10) (T := TX10) (N := 5) (n := 5) hts inX10 (hts (.instantiable RX10 5) (by decide +kernel))
  obtain ⟨c16, i16, h16⟩ := u_known (C := RX11) (T := TX11) (N := 10) (n := 10) hts inX11 (hts (.instantiable RX11 10) (by decide +kernel))
  obtain ⟨c17, i17, h17⟩ := u_known (C := RX12) (T := TX12) (N := 5) (n := 5) hts inX12 (hts (.instantiable RX12 5) (by decide +kernel))
  refine Classical.axiomOfChoice (r := fun (k : Nat) (p : ClassId × (Nat → Nat)) => ∀ (q : vw_C), vwCl[k]? = some q → u_Kn s q.1 q.2.1 q.2.2 p.1 p.2) (fun k => ?_)
  match k with
  | 0 => exact ⟨(c0, i0), fun q hq => by cases hq; exact h0⟩
  | 1 => exact ⟨(c1, i1), fun q hq => by cases hq; exact h1⟩
  | 2 => exact ⟨(c2, i2), fun q hq => by cases hq; exact h2⟩
  | 3 => exact ⟨(c3, i3), fun q hq => by cases hq; exact h3⟩
  | 4 => exact ⟨(c4, i4), fun q hq => by cases hq; exact h4⟩
  | 5 => exact ⟨(c5, i5), fun q hq => by cases hq; exact h5⟩
  | 6 => exact ⟨(c6, i6), fun q hq => by cases hq; exact h6⟩
  | 7 => exact ⟨(c7, i7), fun q hq => by cases hq; exact h7⟩
  | 8 => exact ⟨(c8, i8), fun q hq => by cases hq; exact h8⟩
  | 9 => exact ⟨(c9, i9), fun q hq => by cases hq; exact h9⟩
  | 10 => exact ⟨(c10, i10), fun q hq => by cases hq; exact h10⟩
  | 11 => exact ⟨(c11, i11), fun q hq => by cases hq; exact h11⟩
  | 12 => exact ⟨(c12, i12), fun q hq => by cases hq; exact h12⟩
  | 13 => exact ⟨(c13, i13), fun q hq => by cases hq; exact h13⟩
  | 14 => exact ⟨(c14, i14), fun q hq => by cases hq; exact h14⟩
  | 15 => exact ⟨(c15, i15), fun q hq => by cases hq; exact h15⟩
  | 16 => exact ⟨(c16, i16), fun q hq => by cases hq; exact h16⟩
  | 17 => exact ⟨(c17, i17), fun q hq => by cases hq; exact h17⟩
  | k + 18 => exact ⟨(c0, i0), fun q hq => by simp [vwCl] at hq⟩
set_option maxRecDepth 100000 in
set_option maxHeartbeats 8000000 in
theorem xs_start {s : State} {args : Array Value} (hts : ∀ w ∈ lw_tbl, w.before args s = true) (hgv : (Jvm.Cond.and given_1 narrow_1).before args s = true) : ∃ (dC : Nat → ClassId) (dI : Nat → Nat → Nat) (T : Nat → ClassId), va_K (dC, dI) vwCl (xTy T) s ∧ xG dI (fun q : Nat => s.heap.size ≤ q) s := by
  have hq := flat_of_before _ hgv
  have hA : ∀ a : Nat, a < s.heap.size → ¬ (fun q : Nat => s.heap.size ≤ q) a := fun a h => Nat.not_le.mpr h
  obtain ⟨f, hf⟩ := xs_cls hts
  obtain ⟨t0, a0, r0⟩ := xs_arr (hts (.arrayClass .int) (by decide +kernel))
  obtain ⟨t1, a1, r1⟩ := xs_arr (hts (.arrayClass .boolean) (by decide +kernel))
  obtain ⟨t2, a2, r2⟩ := xs_arrA (t := .int) (hts (.arrayOver (.array .int)) (by decide +kernel))
  obtain ⟨t3, a3, r3⟩ := xs_arrA (t := .boolean) (hts (.arrayOver (.array .boolean)) (by decide +kernel))
  obtain ⟨t4, a4, r4⟩ := xs_arrO (C := "java/lang/Object") (hts (.arrayOver (.object "java/lang/Object")) (by decide +kernel))
  obtain ⟨t5, a5, r5⟩ := xs_arr (hts (.arrayClass .long) (by decide +kernel))
  obtain ⟨t6, a6, r6⟩ := xs_arr (hts (.arrayClass .double) (by decide +kernel))
  have hlen : (Term.length (.static "java/util/ArrayList" "DEFAULTCAPACITY_EMPTY_ELEMENTDATA" "[Ljava/lang/Object;")).eval args s none [] s = some (.int (Int32.ofNat 0)) := by
    have h := hq (.eq (.length (.static "java/util/ArrayList" "DEFAULTCAPACITY_EMPTY_ELEMENTDATA" "[Ljava/lang/Object;")) (.int 0)) (by decide +kernel)
    exact xs_len h
  obtain ⟨ed, hed, hT⟩ := va_Tof (ty := .object "java/lang/Object") (N := 0) (f := fun _ => .null) (A := fun q : Nat => s.heap.size ≤ q) (by decide) (hq (.arrayOf (.static "java/util/ArrayList" "DEFAULTCAPACITY_EMPTY_ELEMENTDATA" "[Ljava/lang/Object;") (.object "java/lang/Object")) (by decide +kernel)) hlen (fun j hj => absurd hj (Nat.not_lt_zero j)) hA
  refine ⟨fun k => (f k).1, fun k j => if k = 1000 then ed else (f k).2 j, fun k => match k with | 0 => t0 | 1 => t1 | 2 => t2 | 3 => t3 | 4 => t4 | 5 => t5 | _ => t6, ⟨fun k q hk => ?_, fun k q hk => ?_⟩, ?_⟩
  · have h := hf k q hk
    by_cases e : k = 1000
    · subst e; simp [vwCl] at hk
    · have e2 : (fun j => if k = 1000 then ed else (f k).2 j) = (f k).2 := by funext j; rw [if_neg e]
      show u_Kn s q.1 q.2.1 q.2.2 (f k).1 (fun j => if k = 1000 then ed else (f k).2 j)
      rw [e2]; exact h
  · match k with
    | 0 => cases hk; exact ⟨a0, r0⟩
    | 1 => cases hk; exact ⟨a1, r1⟩
    | 2 => cases hk; exact ⟨a2, r2⟩
    | 3 => cases hk; exact ⟨a3, r3⟩
    | 4 => cases hk; exact ⟨a4, r4⟩
    | 5 => cases hk; exact ⟨a5, r5⟩
    | 6 => cases hk; exact ⟨a6, r6⟩
    | k + 7 => simp [xTy] at hk
  · refine ⟨vx_Zqof (hts (.laysStatic Bundle.tN "UNASSIGNED_STACK" Bundle.steD) (by decide +kernel)) (hts (.initialized Bundle.tN) (by decide +kernel)) (hq (.isRef (.static Bundle.tN "UNASSIGNED_STACK" Bundle.steD)) (by decide +kernel)) hA, vx_Zqof (hts (.laysStatic Bundle.tN "SUPPRESSED_SENTINEL" Bundle.listD) (by decide +kernel)) (hts (.initialized Bundle.tN) (by decide +kernel)) (hq (.isRef (.static Bundle.tN "SUPPRESSED_SENTINEL" Bundle.listD)) (by decide +kernel)) hA, fun w hw => ?_, fun w hw => ?_, fun q hw => ?_, ?_⟩
    · exact va_Nw.of (by have h1 : (xNest.all Cond.onTables) = true := by decide +kernel
                         exact List.all_eq_true.mp h1 w hw) (hts w (xs_nest w hw))
    · exact va_Nw.of (by have h1 : (xBad.all Cond.onTables) = true := by decide +kernel
                         exact List.all_eq_true.mp h1 w hw) (hts w (xs_bad w hw))
    · have h1 := hts _ (xs_str q hw)
      have h2 := xs_strc q hw
      have h3 : s.vm.findClass q.1 = some (f 16).1 := by rw [h2]; exact (hf 16 _ rfl).2.1
      obtain ⟨k, cf, i, a, -, -, -, -, -, h4⟩ := Cond.stringRef_spec h3 h1
      exact ⟨a, vk_R.of (A := args) h1 h4⟩
    · refine ⟨?_, fun q hw => ?_, va_AO.of (hts (.arrayOver (.object "java/lang/Object")) (by decide +kernel)), hts (.arrayOver (.array .int)) (by decide +kernel), hts (.arrayOver (.array .boolean)) (by decide +kernel), ?_, ?_, fun q hw => va_Nc.of (hq _ (xs_nc q hw)), ?_⟩
      · exact va_Zref (hts (.laysStatic xList "DEFAULTCAPACITY_EMPTY_ELEMENTDATA" "[Ljava/lang/Object;") (by decide +kernel)) (hts (.initialized xList) (by decide +kernel)) hed hA
      · have h := xs_fwin q hw
        exact va_Fw.of (hts _ (h (.declares q.1) (by simp [xs_fw]))) (hts _ (h (.interfaceMethod q.1.cls q.1.cls q.1.name q.1.desc) (by simp [xs_fw]))) (hts _ (h (.publicMethod q.2) (by simp [xs_fw]))) (hts _ (h (.unhidden xList q.1.name q.1.desc) (by simp [xs_fw]))) (hts _ (h (.castable xList q.1.cls) (by simp [xs_fw])))
      · exact va_Nw.of rfl (hts (.castable ("[" ++ (FieldType.array .int).toString) "java/lang/Object") (by decide +kernel))
      · exact va_Nw.of rfl (hts (.castable ("[" ++ FieldType.int.toString) "java/lang/Object") (by decide +kernel))
      · exact hT

