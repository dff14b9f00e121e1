
-- what every contract of ours rests on: the array classes, the facts of the tables that no word of a method bears, worlds, loops
abbrev xTy (T : Nat → ClassId) : List (ClassId × FieldType) := [(T 0, .int), (T 1, .boolean), (T 2, .array .int), (T 3, .array .boolean), (T 4, .object "java/lang/Object"), (T 5, .long), (T 6, .double)]
def xNest : List Cond := [.methodLinkNest RX11 11 yX5_init RX11, .methodLinkNest RX11 18 yX6_init RX11, .methodLinkNest RX11 25 yX3_init RX11, .methodLinkNest RX11 32 yX4_init RX11, .methodLinkNest RX11 39 yX7_init RX11, .methodLinkNest RX11 46 yX9_init RX11, .methodLinkNest RX11 53 yX10_init RX11, .methodLinkNest RX11 60 yX2_init RX11, .methodLinkNest RX11 67 yX1_init RX11, .methodLinkNest RX11 74 yX0_init RX11, .methodLinkNest RX0 52 yX11_isIn RX11, .methodLinkNest RX1 11 yX8_init RX11, .methodLinkNest RX2 24 yX11_isIn RX11, .methodLinkNest RX3 57 yX11_isIn RX11, .methodLinkNest RX4 11 yX8_init RX11, .methodLinkNest RX4 26 yX11_isIn RX11, .methodLinkNest RX5 31 yX11_isIn RX11, .methodLinkNest RX5 73 yX11_signOf RX11, .methodLinkNest RX7 60 yX11_isIn RX11, .methodLinkNest RX9 11 yX8_init RX11, .methodLinkNest RX10 48 yX11_signOf RX11]
def xStr : List (String × Nat × String) := [(RX11, 100, "there are 12 points"), (RX11, 120, "another point is there"), (RX11, 138, "no point is there"), (RX11, 144, "no call can be taken back"), (RX11, 170, "there is none with this index"), (RX11, 181, "the three do not turn"), (RX11, 212, "both are the same"), (RX11, 232, "there is no way"), (RX11, 239, "the hull has no such point"), (RX11, 270, "both ends are the same"), (RX11, 273, "there are 10 walls"), (RX11, 279, "there is no wall"), (RX11, 315, "a point would be beyond, or two at the same place"), (RX11, 358, "there are no points"), (RX11, 382, "there is no such point"), (RX11, 385, "a number is out of range"), (RX11, 387, "there is no such kind of nearness"), (RX11, 389, "there is no such graph"), (RX11, 391, "there is no such law"), (RX11, 393, "there are fewer points"), (RX11, 395, "there is no change"), (RX11, 89, "a point is there")]
def xExc : List String := ["java/lang/IllegalArgumentException", "java/lang/IndexOutOfBoundsException", "java/util/NoSuchElementException", "java/lang/UnsupportedOperationException", "java/lang/IllegalStateException", "java/lang/ArithmeticException"]
def xDecl : List String := ["java/lang/RuntimeException", "java/lang/Exception", "java/lang/Throwable"]
def xBad : List Cond := xExc.map (fun E => .castable E E) ++ xDecl.map (fun C => .declares ⟨C, "<init>", "(Ljava/lang/String;)V"⟩)
theorem xBad_k : ∀ w ∈ xBad, (∃ C E, w = .castable C E) ∨ ∃ x, w = .declares x := by
  intro w hw
  rcases List.mem_append.mp hw with h | h
  · obtain ⟨E, -, rfl⟩ := List.mem_map.mp h; exact Or.inl ⟨_, _, rfl⟩
  · obtain ⟨E, -, rfl⟩ := List.mem_map.mp h; exact Or.inr ⟨_, rfl⟩
theorem xBad_warm {s U : State} (hW : s.WarmedH U.vm) (h : ∀ w ∈ xBad, va_Nw w s) : ∀ w ∈ xBad, va_Nw w U := by
  intro w hw
  rcases xBad_k w hw with ⟨C, E, rfl⟩ | ⟨x, rfl⟩
  · exact va_Nw.warmC hW (h _ hw)
  · exact va_Nw.warmD hW (h _ hw)
theorem xBad_use {s : State} {args : Array Value} (h : ∀ w ∈ xBad, va_Nw w s) : ∀ w ∈ xBad, w.before args s = true := by
  intro w hw
  rcases xBad_k w hw with ⟨C, E, rfl⟩ | ⟨x, rfl⟩
  · exact va_Nw.use rfl (h _ hw)
  · exact va_Nw.use rfl (h _ hw)
abbrev xList : String := "java/util/ArrayList"
def xFw : List (MethodName × MethodName) := [(⟨"java/util/List", "add", "(Ljava/lang/Object;)Z"⟩, yJx4a65c_add_9ea2d), (⟨"java/util/List", "size", "()I"⟩, yJx4a65c_size_8abf5), (⟨"java/util/List", "isEmpty", "()Z"⟩, yJx4a65c_isEmpty_aae02)]
theorem xAO_spec {args : Array Value} {s : State} {t : FieldType} (h : (Cond.arrayOver (.array t)).before args s = true) :
    ∃ comp c k, s.vm.findClass (FieldType.array t).toString = some comp ∧ (s.vm.classes.findIdx? fun x => match x.kind with | .array component _ => component == comp | _ => false) = some c ∧ s.vm.classes[c]? = some k ∧ k.kind = .array comp (.array t) ∧ s.vm.findClass ("[" ++ (FieldType.array t).toString) = some c := by
  simp only [Cond.before, Cond.holds, Cond.value, beq_iff_eq] at h
  cases hc : s.vm.findClass (FieldType.array t).toString with
  | none => simp [hc] at h
  | some comp =>
    simp only [hc, Option.bind_some, Option.bind_eq_some_iff, Option.map_eq_some_iff] at h
    obtain ⟨c, hi, k, hk, hb⟩ := h
    obtain ⟨hlt, hp, -⟩ := Array.findIdx?_eq_some_iff_getElem.mp hi
    have hkk : s.vm.classes[c] = k := (Array.getElem?_eq_some_iff.mp hk).2
    rw [hkk] at hp
    cases hkind : k.kind with
    | array component ty =>
      rw [hkind] at hb hp
      simp at hb hp
      exact ⟨comp, c, k, rfl, hi, hk, by rw [hkind, hp, hb.1], hb.2⟩
    | _ => rw [hkind] at hb; simp at hb
theorem va_AOA.moved {t : FieldType} {u U : State} (hvm : u.vm.Alike U.vm) (h : va_AOA t u) : va_AOA t U := by
  obtain ⟨comp, c, k, h1, h2, h3, h4, h5⟩ := xAO_spec h
  obtain ⟨k', hk', he⟩ := hvm.2.2 _ _ h3
  have hi : (U.vm.classes.findIdx? fun (x : Class) => match x.kind with | .array component _ => component == comp | _ => false) = some c := by
    have e1 := va_idx_bare U.vm comp
    have e2 := va_idx_bare u.vm comp
    have e3 : U.vm.bare = u.vm.bare := by first | exact hvm.bare_eq | exact hvm.bare_eq.symm
    rw [e3] at e1
    exact e1.symm.trans (e2.trans h2)
  have hkind : k'.kind = .array comp (.array t) := by rw [he]; exact h4
  have f1 : U.vm.findClass (FieldType.array t).toString = some comp := by rw [hvm.findClass]; exact h1
  have f2 : U.vm.findClass ("[" ++ (FieldType.array t).toString) = some c := by rw [hvm.findClass]; exact h5
  unfold va_AOA Cond.before Cond.holds
  simp only [Cond.value]
  rw [f1, Option.bind_some]
  refine (congrArg (fun o : Option Nat => (o.bind (fun c => (U.vm.classes[c]?).map fun (k : Class) => match k.kind with | .array _ ty => decide (ty = FieldType.array t) && decide (U.vm.findClass ("[" ++ (FieldType.array t).toString) = some c) | _ => false) == some true)) hi).trans ?_
  simp [hk', hkind, f2]
def xNc : List (String × String) := [("java/lang/IllegalArgumentException", "java/lang/IndexOutOfBoundsException"), ("java/lang/IllegalArgumentException", "java/util/NoSuchElementException"), ("java/lang/IllegalArgumentException", "java/lang/UnsupportedOperationException"), ("java/lang/IllegalArgumentException", "java/lang/IllegalStateException"), ("java/lang/IllegalArgumentException", "java/lang/ArithmeticException"), ("java/lang/IndexOutOfBoundsException", "java/lang/IllegalArgumentException"), ("java/lang/IndexOutOfBoundsException", "java/util/NoSuchElementException"), ("java/lang/IndexOutOfBoundsException", "java/lang/UnsupportedOperationException"), ("java/lang/IndexOutOfBoundsException", "java/lang/IllegalStateException"), ("java/lang/IndexOutOfBoundsException", "java/lang/ArithmeticException"), ("java/util/NoSuchElementException", "java/lang/IllegalArgumentException"), ("java/util/NoSuchElementException", "java/lang/IndexOutOfBoundsException"), ("java/util/NoSuchElementException", "java/lang/UnsupportedOperationException"), ("java/util/NoSuchElementException", "java/lang/IllegalStateException"), ("java/util/NoSuchElementException", "java/lang/ArithmeticException"), ("java/lang/UnsupportedOperationException", "java/lang/IllegalArgumentException"), ("java/lang/UnsupportedOperationException", "java/lang/IndexOutOfBoundsException"), ("java/lang/UnsupportedOperationException", "java/util/NoSuchElementException"), ("java/lang/UnsupportedOperationException", "java/lang/IllegalStateException"), ("java/lang/UnsupportedOperationException", "java/lang/ArithmeticException"), ("java/lang/IllegalStateException", "java/lang/IllegalArgumentException"), ("java/lang/IllegalStateException", "java/lang/IndexOutOfBoundsException"), ("java/lang/IllegalStateException", "java/util/NoSuchElementException"), ("java/lang/IllegalStateException", "java/lang/UnsupportedOperationException"), ("java/lang/IllegalStateException", "java/lang/ArithmeticException"), ("java/lang/ArithmeticException", "java/lang/IllegalArgumentException"), ("java/lang/ArithmeticException", "java/lang/IndexOutOfBoundsException"), ("java/lang/ArithmeticException", "java/util/NoSuchElementException"), ("java/lang/ArithmeticException", "java/lang/UnsupportedOperationException"), ("java/lang/ArithmeticException", "java/lang/IllegalStateException")]
/-- the list's class: its empty row, its calls through the interface; the arrays of references that are made -/
def xH (dI : Nat → Nat → Nat) (A : Nat → Prop) (U : State) : Prop := va_Z xList "DEFAULTCAPACITY_EMPTY_ELEMENTDATA" "[Ljava/lang/Object;" (.ref (dI 1000 0)) A U U.heap ∧ (∀ q ∈ xFw, va_Fw xList q.1 q.2 U) ∧ va_AO "java/lang/Object" U ∧ va_AOA .int U ∧ va_AOA .boolean U ∧ va_Nw (.castable ("[" ++ (FieldType.array .int).toString) "java/lang/Object") U ∧ va_Nw (.castable ("[" ++ FieldType.int.toString) "java/lang/Object") U ∧ (∀ q ∈ xNc, va_Nc q.1 q.2 U) ∧ va_T (.object "java/lang/Object") (dI 1000 0) 0 (fun _ => .null) A U U.heap
def xG (dI : Nat → Nat → Nat) (A : Nat → Prop) (U : State) : Prop := vx_Zq Bundle.tN "UNASSIGNED_STACK" Bundle.steD A U U.heap ∧ vx_Zq Bundle.tN "SUPPRESSED_SENTINEL" Bundle.listD A U U.heap ∧ (∀ w ∈ xNest, va_Nw w U) ∧ (∀ w ∈ xBad, va_Nw w U) ∧ (∀ q ∈ xStr, ∃ sa, vk_R q.1 q.2.1 q.2.2 sa U) ∧ xH dI A U
theorem xNest_warm {s U : State} (hW : s.WarmedH U.vm) (h : ∀ w ∈ xNest, va_Nw w s) : ∀ w ∈ xNest, va_Nw w U := by
  have h0 : ∀ w ∈ xNest, ∃ a i x z, w = .methodLinkNest a i x z := by
    unfold xNest
    repeat (first | exact (fun _ h => absurd h List.not_mem_nil) | refine List.forall_mem_cons.mpr ⟨⟨_, _, _, _, rfl⟩, ?_⟩)
  intro w hw
  obtain ⟨a, i, x, z, rfl⟩ := h0 w hw
  exact va_Nw.warmM hW (h _ hw)
theorem xFw_plain : ∀ q ∈ xFw, q.1.cls ≠ "java/lang/invoke/MethodHandle" ∧ q.1.cls ≠ "java/lang/invoke/VarHandle" := by
  unfold xFw
  intro q hq
  simp only [List.mem_cons, List.not_mem_nil, or_false] at hq
  rcases hq with rfl | rfl | rfl <;> exact ⟨by decide, by decide⟩
theorem xH.at {dI : Nat → Nat → Nat} {A B : Nat → Prop} {s U : State} {H : Heap} {locs : List Loc} (h : xH dI A s) (hS : va_S A s.heap H locs) (hAB : ∀ q, B q → A q) (hU : U.heap = H) (hW : s.WarmedH U.vm) : xH dI B U := by
  obtain ⟨h1, h2, h3, h4, h5, h6, h7, h8, h9⟩ := h
  refine ⟨?_, fun q hq => va_Fw.moved (xFw_plain q hq) hW.alike (h2 q hq), va_AO.moved hW.alike h3, va_AOA.moved hW.alike h4, va_AOA.moved hW.alike h5, va_Nw.warmC hW h6, va_Nw.warmC hW h7, fun q hq => va_Nc.moved hW.alike (h8 q hq), ?_⟩
  · rw [hU]; exact (va_Z.moved hW.alike (h1.kept hS.2.1)).narrow hAB
  · rw [hU]; exact (va_T.moved hW.alike (h9.kept hS.2.1)).narrow hAB
theorem xG.at {dI : Nat → Nat → Nat} {A B : Nat → Prop} {s U : State} {H : Heap} {locs : List Loc} (h : xG dI A s) (hS : va_S A s.heap H locs) (hAB : ∀ q, B q → A q) (hU : U.heap = H) (hW : s.WarmedH U.vm) : xG dI B U := by
  obtain ⟨h1, h2, h3, h4, h5, h6⟩ := h
  refine ⟨?_, ?_, xNest_warm hW h3, xBad_warm hW h4, fun q hq => ?_, h6.at hS hAB hU hW⟩
  · rw [hU]; exact (vx_Zq.moved hW.alike (h1.kept hS.2.1)).narrow hAB
  · rw [hU]; exact (vx_Zq.moved hW.alike (h2.kept hS.2.1)).narrow hAB
  · obtain ⟨sa, hsa⟩ := h5 q hq
    exact ⟨sa, vk_R.warm hW hsa⟩
theorem xG.calling {dI : Nat → Nat → Nat} {A : Nat → Prop} {U : State} {g : JFrame} {mk : MethodId} {a : Array Value} (h : xG dI A U) : xG dI A (U.calling g mk a) :=
  h.at (H := U.heap) (locs := []) va_S.rf (fun _ q => q) rfl (State.WarmedH.refl U)
abbrev xB (dC : Nat → ClassId) (dI : Nat → Nat → Nat) (T : Nat → ClassId) (ws : va_W) (sz : Nat) (U : State) : Prop := U.heap.size = sz ∧ va_P (dC, dI) vwCl ws U.heap ∧ va_K (dC, dI) vwCl (xTy T) U ∧ va_D (fun _ => True) ws ∧ xG dI (va_A ws sz) U
abbrev xE (dC : Nat → ClassId) (dI : Nat → Nat → Nat) (ws : va_W) (A : Nat → Prop) (t : State) : Prop := va_P (dC, dI) vwCl ws t.heap ∧ va_D A ws
theorem xBlind {dC : Nat → ClassId} {dI : Nat → Nat → Nat} {T : Nat → ClassId} {ws : va_W} {sz : Nat} {av : List Value} : FrameBlind (va_Pc av (fun U => xB dC dI T ws sz U)) := by
  intro a U g mk q
  obtain ⟨q0, q1, qP, qK, qD, qG⟩ := q
  exact ⟨q0, q1, qP, va_K.moved (u := U) (U := U.calling g mk a) (Vm.Alike.refl U.vm) qK, qD, qG.calling⟩
/-- the callee's start, from the caller's world -/
theorem xCall {dC : Nat → ClassId} {dI : Nat → Nat → Nat} {T : Nat → ClassId} {A : Nat → Prop} {s : State} {wc : va_W} {H : Heap} {locs : List Loc} (hK : va_K (dC, dI) vwCl (xTy T) s) (hG : xG dI A s) (hS : va_S A s.heap H locs) (hPc : va_P (dC, dI) vwCl wc H) (hDc : va_D A wc) (hFc : ∀ q, va_A wc H.size q → A q) {As : List Value} : ∀ U : State, U.heap = H → s.WarmedH U.vm → va_Pc As (fun U => xB dC dI T wc H.size U) As.toArray U :=
  fun U hU hW => ⟨rfl, by rw [hU], by rw [hU]; exact hPc, va_K.moved hW.alike hK, hDc.weaken (fun _ _ _ _ => trivial), hG.at hS hFc hU hW⟩
theorem xshr0 (y : Int32) : (0 : Int32) >>> (y &&& 31) = 0 := by
  apply Int32.toBitVec_inj.mp
  simp
theorem xz (k : Nat) : upd (fun _ => (0 : Int32)) k 0 = fun _ => 0 := by funext j; simp [upd]
theorem xnrb0 : vp_nar .boolean 0 = 0 := by decide

theorem xthrF {A : Nat → Prop} {s t : State} {H : Heap} {locs : List Loc} (hS : va_S A s.heap H locs) (h1 : H.size ≤ t.heap.size) (hk : ∀ q : Nat, q < H.size → t.heap[q]? = H[q]?) : va_F A s t :=
  ⟨Nat.le_trans hS.1 h1, fun q a b => (hk q (Nat.lt_of_lt_of_le a hS.1)).trans (hS.2.1 q a b)⟩
theorem xLoop {p : Program} {l : Launch} {e : Env} {R : Room} {s : State} {m : MethodId} {args : Array Value} {below : List Frame} {meth : Method} {c : Code} {cells slots : Nat} {Q : State → Prop} {head : Nat} (P : Nat → Heap → List Loc → Array Slot → Prop) (N : Nat)
    (body : ∀ (i : Nat) (H : Heap) (locs : List Loc) (ls : Array Slot), i ≤ N → P i H locs ls → (∀ (H' : Heap) (locs' : List Loc) (ls' : Array Slot), i + 1 ≤ N → P (i + 1) H' locs' ls' → W p l e R s m args below meth c H' locs' cells slots Q (F0 m head ls' [])) → W p l e R s m args below meth c H locs cells slots Q (F0 m head ls [])) :
    ∀ (i : Nat) (H : Heap) (locs : List Loc) (ls : Array Slot), i ≤ N → P i H locs ls → W p l e R s m args below meth c H locs cells slots Q (F0 m head ls []) := by
  have key : ∀ (n i : Nat) (H : Heap) (locs : List Loc) (ls : Array Slot), N ≤ i + n → i ≤ N → P i H locs ls → W p l e R s m args below meth c H locs cells slots Q (F0 m head ls []) := by
    intro n
    induction n with
    | zero => intro i H locs ls h1 h2 hP; exact body i H locs ls h2 hP (fun _ _ _ h _ => absurd h (by omega))
    | succ n ih => intro i H locs ls h1 h2 hP; exact body i H locs ls h2 hP (fun H' locs' ls' h hP' => ih (i + 1) H' locs' ls' (by omega) h hP')
  intro i H locs ls h1 h2
  exact key N i H locs ls (by omega) h1 h2
/-- the class of an array, by its name, is the one that we know -/
theorem xNewa {p : Program} {l : Launch} {e : Env} {R : Room} {s : State} {m : MethodId} {args : Array Value} {below : List Frame} {meth : Method} {c : Code} {H H0 : Heap} {locs : List Loc} {cells slots : Nat} {Q : State → Prop} {pc : Nat} {ls : Array Slot} {rest : List Value} {cc : ByteArray} {D : va_G} {cl : List vw_C} {tys : List (ClassId × FieldType)} {ws : va_W} {A : Nat → Prop} {atype : ArrayType} {ty : FieldType} {n : Int32} {N' : Nat} {a0 : vp_A} {cT : ClassId} (t0 : Nat) (ht0 : tys[t0]? = some (cT, ty)) (hexec : p.tables.exec = Jvm.exec) (hb : c.code = cc) (harr : (Cond.arrayClass (newarray.typeOf atype)).before args s = true) (hty : newarray.typeOf atype = ty) (hK : va_K D cl tys s) (hP : va_P D cl ws H) (hD : va_D A ws) (hS : va_S A H0 H locs) (hA : ∀ q, H0.size ≤ q → A q)
    (ha : ∀ cA : ClassId, vp_cell cA a0 = arrV cA N' (fun _ => defaultValue ty)) (hn : ¬ n < 0) (hN : n.toNatClampNeg = N') (hbytes : N' * componentBytes ty ≤ 536870912) (hcells : cells + 1 ≤ R.cells) (hslots : slots + N' ≤ R.slots) (hdg : decode cc pc = .ok (.newarray atype, 2))
    (kk : ∀ (q : Nat) (H1 : Heap), va_P D cl (ws ++ [(q, .inl (cT, a0))]) H1 → va_D A (ws ++ [(q, .inl (cT, a0))]) → va_S A H0 H1 locs →
      W p l e R s m args below meth c H1 locs (cells + 1) (slots + N') Q (F0 m (pc + 2) ls (.ref q :: rest))) : W p l e R s m args below meth c H locs cells slots Q (F0 m pc ls (.int n :: rest)) := by
  refine va_newa hexec hb harr hty hK hP hD hS hA ha hn hN hbytes hcells hslots hdg (fun q cA H1 hK1 hP1 hD1 hS1 => ?_)
  have h1 : va_RA s cT ty := (hK.2 t0 _ ht0).2
  have h2 : va_RA s cA ty := (hK1.2 tys.length (cA, ty) (by simp)).2
  have hc : cA = cT := by
    subst hty
    cases atype <;> exact Option.some.inj (h2.symm.trans h1)
  subst hc
  exact kk q H1 hP1 hD1 hS1

theorem xmul (a b : Nat) : nI a * nI b = nI (a * b) := (Int32.ofNat_mul a b).symm
theorem xRA {s : State} {c d : ClassId} {t : FieldType} (h1 : va_RA s c t) (h2 : va_RA s d t) : c = d := by
  cases t with
  | object C => obtain ⟨-, -, -, -, -, e1⟩ := h1; obtain ⟨-, -, -, -, -, e2⟩ := h2; exact Option.some.inj (e1.symm.trans e2)
  | _ => exact Option.some.inj (h1.symm.trans h2)
theorem xAldq {p : Program} {l : Launch} {e : Env} {R : Room} {s : State} {m : MethodId} {args : Array Value} {below : List Frame} {meth : Method} {c : Code} {H : Heap} {locs : List Loc} {cells slots : Nat} {Q : State → Prop} {pc : Nat} {ls : Array Slot} {rest : List Value} {cc : ByteArray} {D : va_G} {cl : List vw_C} {tys : List (ClassId × FieldType)} {ws : va_W} {a : Nat} (hexec : p.tables.exec = Jvm.exec) (hb : c.code = cc) (hK : va_K D cl tys s) (hP : va_P D cl ws H) (q0 t0 : Nat) {cA : ClassId} {t : FieldType} {n : Nat} {f : Nat → Option Nat} (ha : ws[q0]? = some (a, .inl (cA, n, .inr (.inr (.inr (.inr f)))))) (ht : tys[t0]? = some (cA, .array t)) {i : Int32} (hin : vp_in i n) (hdg : decode cc pc = .ok (.aaload, 1))
    (kk : W p l e R s m args below meth c H locs cells slots Q (F0 m (pc + 1) ls (va_rf (f i.toNatClampNeg) :: rest))) : W p l e R s m args below meth c H locs cells slots Q (F0 m pc ls (.int i :: .ref a :: rest)) := by
  have hlt : i.toNatClampNeg < n := Nat.not_le.mp fun q => hin (Or.inr q)
  exact W.aald (v := va_rf (f i.toNatClampNeg)) (ty := .array t) hexec hb (hP q0 _ ha) ((hK.2 t0 _ ht).1 n (fun j => va_rf (f j))) rfl (fun q => by cases q) (by show ¬ (i < 0 ∨ (arrV _ _ _).slots.size ≤ _); rw [arrV_size]; exact hin) (by show (arrV _ _ _).slots[_]? = _; rw [arrV_read _ _ hlt]) rfl rfl hdg kk
