-- arrays laid into arrays
theorem xasg (vm : Vm) (c : ClassId) : vm.assignable c c = true := by
  unfold Vm.assignable
  rw [show (256 : Nat) = 255 + 1 from rfl, Vm.assignableAux]
  simp
section MK2
variable {p : Program} {l : Launch} {e : Env} {R : Room} {s : State} {m : MethodId} {args : Array Value} {below : List Frame} {meth : Method} {c : Code} {H H0 : Heap} {locs : List Loc} {cells slots : Nat} {Q : State → Prop} {pc : Nat} {ls : Array Slot} {rest : List Value} {cc : ByteArray} {D : va_G} {cl : List vw_C} {tys : List (ClassId × FieldType)} {ws : va_W} {A : Nat → Prop} {a : Nat}
theorem xAny {v qk : Nat} {cV : ClassId} {x : vp_A} {n E : String} (hP : va_P D cl ws H) (hv : ws[qk]? = some (v, .inl (cV, x))) (hvm : (vp_cell cV x).vm.isStatics = false) (hcl : (vp_cell cV x).cls = cV) (hn : s.vm.findClass n = some cV) (hca : va_Nw (.castable n E) s) : va_Any E s H v := by
  obtain ⟨c0, t1, f1, f2, f3⟩ := Cond.castable_spec (va_Nw.use (A := #[]) rfl hca)
  obtain ⟨k0, hk0, -⟩ := Vm.findClass_spec hn
  cases hn.symm.trans f1
  exact ⟨vp_cell cV x, hP qk _ hv, hvm, ⟨k0, by rw [hcl]; exact hk0⟩, fun comp h => by rw [hcl]; cases h.symm.trans f2; exact f3⟩
theorem xAstA {own : String} {cT cV : ClassId} {t : FieldType} {n v q0 qk t0 : Nat} {f : Nat → Option Nat} {x : vp_A} (hexec : p.tables.exec = Jvm.exec) (hb : c.code = cc) (hover : va_AOA t s) (hK : va_K D cl tys s) (hP : va_P D cl ws H) (hD : va_D A ws) (hS : va_S A H0 H locs) (ha : ws[q0]? = some (a, .inl (cT, n, .inr (.inr (.inr (.inr f)))))) (ht : tys[t0]? = some (cT, .array t)) (hv : ws[qk]? = some (v, .inl (cV, x))) (hvs : (vp_cell cV x).vm.isStatics = false) (hcl : (vp_cell cV x).cls = cV) (hn : s.vm.findClass (FieldType.array t).toString = some cV) {i : Int32} (hin : vp_in i n) (hdg : decode cc pc = .ok (.aastore, 1))
    (kk : ∀ (H1 : Heap) (locs1 : List Loc), va_P D cl (ws.set q0 (a, .inl (cT, n, .inr (.inr (.inr (.inr (va_up f i.toNatClampNeg (some v)))))))) H1 → va_D A (ws.set q0 (a, .inl (cT, n, .inr (.inr (.inr (.inr (va_up f i.toNatClampNeg (some v)))))))) → va_S A H0 H1 locs1 → W p l e R s m args below meth c H1 locs1 cells slots Q (F0 m (pc + 1) ls rest)) : W p l e R s m args below meth c H locs cells slots Q (F0 m pc ls (.ref v :: .int i :: .ref a :: rest)) := by
  have hlt : i.toNatClampNeg < n := Nat.not_le.mp fun q => hin (Or.inr q)
  have h0 : ¬ i < 0 := fun q => hin (Or.inl q)
  obtain ⟨comp, cA, kA, hcomp, -, hkA, hkindA, hnameA⟩ := xAO_spec (va_AOA.use (A := args) hover)
  have e1 : cA = cT := Option.some.inj (hnameA.symm.trans (hK.2 t0 _ ht).2)
  subst e1
  have e2 : comp = cV := Option.some.inj (hcomp.symm.trans hn)
  subst e2
  obtain ⟨k0, hk0, -⟩ := Vm.findClass_spec hn
  refine W.aast hexec hb (hP q0 _ ha) (fun q h => by cases h) (fun h => by cases h) hkA hkindA rfl hk0 ⟨h0, by show _ < (arrV _ _ _).slots.size; rw [arrV_size]; exact hlt⟩ (hP qk _ hv) (fun q h => by rw [h] at hvs; cases hvs) (by rw [hcl]; exact hk0) (by rw [hcl]; exact xasg _ _) rfl rfl hdg fun H1 e z oq => ?_
  refine kk H1 _ (hP.set hD ha ?_ oq) (hD.set ha) (hS.put z oq (hD.2 q0 _ ha))
  show H1[a]? = some (vp_cell _ _)
  rw [e]
  rw [vp_cell_q, vp_cell_q, arrV_store]
  congr 2
  funext q
  by_cases hq : q = i.toNatClampNeg
  · subst hq
    simp [updV, va_up, va_rf]
  · simp [updV, va_up, hq]
end MK2
theorem xsubi {x y : Int32} {n : Int} (hy : y.toInt = n) (h0 : 0 < n) (h : -2147483648 + n ≤ x.toInt) : (x - y).toInt = x.toInt - n := by
  have h1 := Int32.toInt_lt x
  exact xsubn hy ⟨by omega, by omega⟩
