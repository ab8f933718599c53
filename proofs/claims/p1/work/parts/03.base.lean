/-! what every contract here speaks in: the array classes are known once for all, so a world is a list of cells alone -/
abbrev kT (cC cI cZ : ClassId) : List (ClassId × FieldType) := [(cC, .char), (cI, .int), (cZ, .boolean)]
def kPre (D : va_G) (cC cI cZ : ClassId) (ws : va_W) (sz : Nat) (U : State) : Prop := U.heap.size = sz ∧ va_P D vwCl ws U.heap ∧ va_K D vwCl (kT cC cI cZ) U ∧ va_D (fun _ => True) ws
theorem kBlind {av : List Value} {D : va_G} {cC cI cZ : ClassId} {ws : va_W} {sz : Nat} : FrameBlind (va_Pc av (kPre D cC cI cZ ws sz)) := fun a U g mk q => by
  obtain ⟨q0, q1, qP, qK, qD⟩ := q
  exact ⟨q0, q1, qP, va_K.moved (u := U) (U := U.calling g mk a) (Vm.Alike.refl U.vm) qK, qD⟩
theorem kMk {s : State} {H : Heap} {As : List Value} {D : va_G} {cC cI cZ : ClassId} {ws : va_W} {A : Nat → Prop} (hK : va_K D vwCl (kT cC cI cZ) s) (hP : va_P D vwCl ws H) (hD : va_D A ws) : ∀ U : State, U.heap = H → s.WarmedH U.vm → va_Pc As (kPre D cC cI cZ ws H.size) As.toArray U :=
  fun U hU hW => ⟨rfl, by rw [hU], by rw [hU]; exact hP, va_K.moved hW.alike hK, hD.weaken (fun _ _ _ _ => trivial)⟩
theorem kPreS {s : State} {H : Heap} {As : List Value} {D : va_G} {cC cI cZ : ClassId} {ws : va_W} {A : Nat → Prop} (hK : va_K D vwCl (kT cC cI cZ) s) (hP : va_P D vwCl ws H) (hD : va_D A ws) : PreS s H (va_Pc As (kPre D cC cI cZ ws H.size)) As := ⟨kBlind, kMk hK hP hD⟩
theorem kPreV {s : State} {H : Heap} {C : String} {b : Addr} {As : List Value} {D : va_G} {cC cI cZ : ClassId} {ws : va_W} {A : Nat → Prop} (hK : va_K D vwCl (kT cC cI cZ) s) (hP : va_P D vwCl ws H) (hD : va_D A ws) (hr : ∃ cellB : Cell, H[b]? = some cellB ∧ cellB.vm.isStatics = false ∧ s.vm.findClass C = some cellB.cls) : PreV s H C b (va_Pc (.ref b :: As) (kPre D cC cI cZ ws H.size)) As := ⟨kBlind, hr, kMk hK hP hD⟩
theorem kPreN {s : State} {H : Heap} {As : List Value} {D : va_G} {cC cI cZ : ClassId} {ws : va_W} {A : Nat → Prop} {a1 a2 a3 t1 t2 t3 : String} {i1 i2 i3 : Nat} {x1 x2 x3 : MethodName} (hK : va_K D vwCl (kT cC cI cZ) s) (hP : va_P D vwCl ws H) (hD : va_D A ws) (h1 : va_Nw (.methodLinkNest a1 i1 x1 t1) s) (h2 : va_Nw (.methodLinkNest a2 i2 x2 t2) s) (h3 : va_Nw (.methodLinkNest a3 i3 x3 t3) s) : PreS s H (va_Pc As (fun U => kPre D cC cI cZ ws H.size U ∧ va_Nw (.methodLinkNest a1 i1 x1 t1) U ∧ va_Nw (.methodLinkNest a2 i2 x2 t2) U ∧ va_Nw (.methodLinkNest a3 i3 x3 t3) U)) As := by
  refine ⟨fun a U g mk q => ?_, fun U hU hW => ⟨rfl, (kMk (As := As) hK hP hD U hU hW).2, va_Nw.warmM hW h1, va_Nw.warmM hW h2, va_Nw.warmM hW h3⟩⟩
  obtain ⟨q0, qk, n1, n2, n3⟩ := q
  have h := kBlind (av := As) a U g mk ⟨q0, qk⟩
  exact ⟨q0, h.2, va_Nw.same rfl rfl n1, va_Nw.same rfl rfl n2, va_Nw.same rfl rfl n3⟩
theorem kset {α : Type} {w : List α} {q : Nat} {x : α} (h : w[q]? = some x) : w.set q x = w := by
  obtain ⟨hlt, rfl⟩ := List.getElem?_eq_some_iff.mp h
  exact List.set_getElem_self hlt
section KB
variable {p : Program} {l : Launch} {e : Env} {R : Room} {s : State} {m : MethodId} {args : Array Value} {below : List Frame} {meth : Method} {c : Code} {H : Heap} {locs : List Loc} {cells slots : Nat} {Q : State → Prop} {pc : Nat} {ls : Array Slot} {rest : List Value}
theorem kt_eq {x y : Int32} (h : x = y) (k : W p l e R s m args below meth c H locs cells slots Q (F0 m pc ls (.int y :: rest))) : W p l e R s m args below meth c H locs cells slots Q (F0 m pc ls (.int x :: rest)) := by
  subst h
  exact k
theorem kn_newa {cc : ByteArray} {D : va_G} {cl : List vw_C} {tys : List (ClassId × FieldType)} {ws : va_W} {A : Nat → Prop} {H0 : Heap} (hexec : p.tables.exec = Jvm.exec) (hb : c.code = cc) {atype : ArrayType} {ty : FieldType} (harr : (Cond.arrayClass ty).before args s = true) (hty : newarray.typeOf atype = ty) (hK : va_K D cl tys s) (t0 : Nat) {cA : ClassId} (ht : tys[t0]? = some (cA, ty)) (hP : va_P D cl ws H) (hD : va_D A ws) (hS : va_S A H0 H locs) (hA : ∀ q, H0.size ≤ q → A q)
    {n : Int32} {N' : Nat} {f : Nat → Int32} (ha : ∀ cA : ClassId, vp_cell cA (N', .inl f) = arrV cA N' (fun _ => defaultValue ty)) (hn : ¬ n < 0) (hN : n.toNatClampNeg = N') (hbytes : N' * componentBytes ty ≤ 536870912) (hcells : cells + 1 ≤ R.cells) (hslots : slots + N' ≤ R.slots) (hdg : decode cc pc = .ok (.newarray atype, 2))
    (kk : ∀ (q : Nat) (H1 : Heap), va_P D cl (ws ++ [(q, .inl (cA, N', .inl f))]) H1 → va_D A (ws ++ [(q, .inl (cA, N', .inl f))]) → va_S A H0 H1 locs →
      W p l e R s m args below meth c H1 locs (cells + 1) (slots + N') Q (F0 m (pc + 2) ls (.ref q :: rest))) : W p l e R s m args below meth c H locs cells slots Q (F0 m pc ls (.int n :: rest)) := by
  subst hty
  refine va_newa hexec hb harr rfl hK hP hD hS hA (a0 := (N', .inl f)) ha hn hN hbytes hcells hslots hdg (fun q cB H1 hK1 hP1 hD1 hS1 => ?_)
  have hB : cB = cA := by
    have h1 := (hK1.2 tys.length (cB, newarray.typeOf atype) (by simp)).2
    have h2 := (hK.2 t0 _ ht).2
    cases atype <;> exact Option.some.inj (h1.symm.trans h2)
  subst hB
  exact kk q H1 hP1 hD1 hS1
theorem kn_iastS {cc : ByteArray} {D : va_G} {cl : List vw_C} {tys : List (ClassId × FieldType)} {ws : va_W} {A : Nat → Prop} {H0 : Heap} {a : Nat} (hexec : p.tables.exec = Jvm.exec) (hb : c.code = cc) (hK : va_K D cl tys s) (hP : va_P D cl ws H) (hD : va_D A ws) (hS : va_S A H0 H locs) (q0 t0 : Nat) {cA : ClassId} {n : Nat} {f : Nat → Int32} (ha : ws[q0]? = some (a, .inl (cA, n, .inl f))) (ht : tys[t0]? = some (cA, .int)) {i x : Int32} (hin : vp_in i n) (hsame : f i.toNatClampNeg = x) (hdg : decode cc pc = .ok (.iastore, 1))
    (kk : ∀ (H1 : Heap) (locs1 : List Loc), va_P D cl ws H1 → va_D A ws → va_S A H0 H1 locs1 → W p l e R s m args below meth c H1 locs1 cells slots Q (F0 m (pc + 1) ls rest)) : W p l e R s m args below meth c H locs cells slots Q (F0 m pc ls (.int x :: .int i :: .ref a :: rest)) := by
  have hf : upd f i.toNatClampNeg x = f := by
    funext j
    unfold upd
    by_cases hj : j = i.toNatClampNeg
    · rw [if_pos hj, hj, hsame]
    · rw [if_neg hj]
  have hw : ws.set q0 (a, .inl (cA, n, .inl (upd f i.toNatClampNeg x))) = ws := by
    rw [hf]
    exact kset ha
  refine va_iast hexec hb hK hP hD hS q0 t0 ha ht hin hdg (fun H1 locs1 hP1 hD1 hS1 => ?_)
  rw [hw] at hP1 hD1
  exact kk H1 locs1 hP1 hD1 hS1
end KB
theorem fa_lt (a b : Int32) : a < b ↔ a.toInt < b.toInt := Int32.lt_iff_toInt_lt
theorem fa_le (a b : Int32) : a ≤ b ↔ a.toInt ≤ b.toInt := Int32.le_iff_toInt_le
theorem fa_eq (a b : Int32) : a = b ↔ a.toInt = b.toInt := Int32.toInt_inj.symm
theorem kne_lo {x k : Int32} (h : x.toInt < 0) (hk : 0 ≤ k.toInt) : ¬ x = k := fun e => by subst e; omega
theorem kne_hi {x k : Int32} (h : 16 < x.toInt) (hk : k.toInt ≤ 16) : ¬ x = k := fun e => by subst e; omega
theorem ksp_of {x M : Int32} {n : Nat} (hM : M.toInt = n) (h0 : 0 ≤ x) (h1 : x ≤ M) : ∃ j : Nat, j ≤ n ∧ x = nI j := nI_of2 hM (fun h => by rw [fa_lt] at h; rw [fa_le] at h0; omega) h1
theorem ksp4 (x : Int32) (h0 : 0 ≤ x) (h1 : x ≤ 4) : x = 0 ∨ x = 1 ∨ x = 2 ∨ x = 3 ∨ x = 4 := by
  obtain ⟨k, hk, rfl⟩ := ksp_of (M := 4) (n := 4) (by decide) h0 h1
  rcases (show k = 0 ∨ k = 1 ∨ k = 2 ∨ k = 3 ∨ k = 4 by omega) with rfl | rfl | rfl | rfl | rfl
  all_goals decide
theorem ksp16 (x : Int32) : x = 0 ∨ x = 1 ∨ x = 2 ∨ x = 3 ∨ x = 4 ∨ x = 5 ∨ x = 6 ∨ x = 7 ∨ x = 8 ∨ x = 9 ∨ x = 10 ∨ x = 11 ∨ x = 12 ∨ x = 13 ∨ x = 14 ∨ x = 15 ∨ x = 16 ∨ x.toInt < 0 ∨ 16 < x.toInt := by
  by_cases hlo : x.toInt < 0
  · simp [hlo]
  by_cases hhi : 16 < x.toInt
  · simp [hhi]
  have e16 : Int32.toInt 16 = 16 := by decide
  have e0 : Int32.toInt 0 = 0 := by decide
  obtain ⟨k, hk, rfl⟩ := ksp_of (x := x) (M := 16) (n := 16) (by decide) ((fa_le 0 x).mpr (by omega)) ((fa_le x 16).mpr (by omega))
  rcases (show k = 0 ∨ k = 1 ∨ k = 2 ∨ k = 3 ∨ k = 4 ∨ k = 5 ∨ k = 6 ∨ k = 7 ∨ k = 8 ∨ k = 9 ∨ k = 10 ∨ k = 11 ∨ k = 12 ∨ k = 13 ∨ k = 14 ∨ k = 15 ∨ k = 16 by omega) with rfl | rfl | rfl | rfl | rfl | rfl | rfl | rfl | rfl | rfl | rfl | rfl | rfl | rfl | rfl | rfl | rfl
  all_goals decide
theorem ksp4n (x : Int32) (h0 : ¬ x < 0) (h1 : x ≤ 4) : x = 0 ∨ x = 1 ∨ x = 2 ∨ x = 3 ∨ x = 4 := by
  refine ksp4 x ?_ h1
  rw [fa_lt] at h0
  rw [fa_le]
  omega
theorem kadd1 {x : Int32} (h0 : 0 ≤ x.toInt) (h : x.toInt ≤ 30) : (x + 1).toInt = x.toInt + 1 := by
  have e1 : Int32.toInt 1 = 1 := by decide
  rw [Int32.toInt_add, e1]
  rw [Int.bmod_def]
  omega
/-- one list's words stand in another's, in the same order -/
def kSub : List Cond → List Cond → Bool
  | [], _ => true
  | _ :: _, [] => false
  | a :: as, x :: xs => if a = x then kSub as xs else kSub (a :: as) xs
theorem kSub_mem : ∀ {ws big : List Cond}, kSub ws big = true → ∀ w ∈ ws, w ∈ big
  | [], _, _ => fun _ h => absurd h List.not_mem_nil
  | _ :: _, [], h => by simp [kSub] at h
  | a :: as, x :: xs, h => by
    unfold kSub at h
    by_cases e : a = x
    · rw [if_pos e] at h
      intro w hw
      rcases List.mem_cons.mp hw with q | q
      · rw [q, e]
        exact List.mem_cons_self
      · exact List.mem_cons_of_mem _ (kSub_mem h w q)
    · rw [if_neg e] at h
      intro w hw
      exact List.mem_cons_of_mem _ (kSub_mem h w hw)
