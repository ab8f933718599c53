def sw_k_X10_copy_1 : List Cond := .code yX10_copy cX10_copy 3 none :: (([] : List Cond) ++ (([] : List Cond)))
theorem gd_k_X10_copy_1 : ∀ w ∈ sw_k_X10_copy_1, (w.onTables && w.keeps) = true ∨ ∃ ty, w = .arrayClass ty := List.forall_mem_cons.mpr ⟨good_of_word rfl, List.forall_mem_append.mpr ⟨fun w h => good_of_word (List.all_eq_true.mp (by decide +kernel : (([] : List Cond)).all goodWord = true) w h), fun _ h => absurd h List.not_mem_nil⟩⟩
set_option maxHeartbeats 4000000 in
set_option maxRecDepth 100000 in
theorem k_X10_copy_1 (l : Launch) (D : va_G) (cC cI cZ : ClassId) (h0 h1 : Nat) (sz : Nat) : Met l yX10_copy sw_k_X10_copy_1 ({ frames := 2, cells := 0, slots := 0, locals := 100 }) (va_Pc [.ref h0, .ref h1] (kPre D cC cI cZ [(h0, .inl (cI, 9, .inl (upd (upd (upd (fun _ => 0) (Int32.toNatClampNeg 3) 5) (Int32.toNatClampNeg 4) 9) (Int32.toNatClampNeg 7) 1))), (h1, .inl (cI, 9, .inl (fun _ => 0)))] sz)) (va_Qv (fun (_ : Unit) => True) (fun _ t => va_P D vwCl [(h0, .inl (cI, 9, .inl (upd (upd (upd (fun _ => 0) (Int32.toNatClampNeg 3) 5) (Int32.toNatClampNeg 4) 9) (Int32.toNatClampNeg 7) 1))), (h1, .inl (cI, 9, .inl (upd (upd (upd (fun _ => 0) (Int32.toNatClampNeg 3) 5) (Int32.toNatClampNeg 4) 9) (Int32.toNatClampNeg 7) 1)))] t.heap ∧ va_D (va_A [(h0, .inl (cI, 9, .inl (upd (upd (upd (fun _ => 0) (Int32.toNatClampNeg 3) 5) (Int32.toNatClampNeg 4) 9) (Int32.toNatClampNeg 7) 1))), (h1, .inl (cI, 9, .inl (fun _ => 0)))] sz) [(h0, .inl (cI, 9, .inl (upd (upd (upd (fun _ => 0) (Int32.toNatClampNeg 3) 5) (Int32.toNatClampNeg 4) 9) (Int32.toNatClampNeg 7) 1))), (h1, .inl (cI, 9, .inl (upd (upd (upd (fun _ => 0) (Int32.toNatClampNeg 3) 5) (Int32.toNatClampNeg 4) 9) (Int32.toNatClampNeg 7) 1)))]) (va_A [(h0, .inl (cI, 9, .inl (upd (upd (upd (fun _ => 0) (Int32.toNatClampNeg 3) 5) (Int32.toNatClampNeg 4) 9) (Int32.toNatClampNeg 7) 1))), (h1, .inl (cI, 9, .inl (fun _ => 0)))] sz)) 0 0 (va_A [(h0, .inl (cI, 9, .inl (upd (upd (upd (fun _ => 0) (Int32.toNatClampNeg 3) 5) (Int32.toNatClampNeg 4) 9) (Int32.toNatClampNeg 7) 1))), (h1, .inl (cI, 9, .inl (fun _ => 0)))] sz) := by
  refine Met.ofW (cc := cX10_copy) (maxL := 3) (ret := none) (by decide) rfl ?_
  intro p e s m args below meth c s₁ B hml hv
  obtain ⟨rfl, hsz, hP, hK, hD0⟩ := hv
  have hx := B.exec
  have hb := B.bytes
  have hr := B.returns
  have hts := atoms_spec (ws := sw_k_X10_copy_1) B.pre
  have hown : s.vm.findClass RX10 = some m.cls := findClass_of_methodNamed B.named
  have hlocks := B.notSynchronized
  subst hsz
  have hD := hD0.self (sz := s.heap.size)
  generalize hAe : va_A [(h0, .inl (cI, 9, .inl (upd (upd (upd (fun _ => 0) (Int32.toNatClampNeg 3) 5) (Int32.toNatClampNeg 4) 9) (Int32.toNatClampNeg 7) 1))), (h1, .inl (cI, 9, .inl (fun _ => 0)))] s.heap.size = A at hD ⊢
  have hA : ∀ q : Nat, s.heap.size ≤ q → A q := fun q h => by rw [← hAe]; exact Or.inr h
  have hS : va_S A s.heap s.heap [] := va_S.rf
  have hl := lv_entry ([.ref h0, .ref h1]) (n := 3) (Nat.le_of_ble_eq_true rfl)
  rw [lg_entry_eq]
  generalize (lg_sl ([.ref h0, .ref h1]) ++ List.replicate (3 - (lg_sl ([.ref h0, .ref h1])).length) Slot.unset).toArray = ls at hl ⊢
  have hl : lv_has ls 3 [(0, .ref h0), (1, .ref h1)] := hl
  refine lv_iconst (v := 0) hx hb dX10_copy_0 (by decide) ?_
  refine lv_istore_n (lv' := [(2, .int 0), (0, .ref h0), (1, .ref h1)]) hx hb dX10_copy_1 rfl hl (by decide) rfl (fun ls hl => ?_)
  refine lv_iload_n hx hb dX10_copy_2 rfl (lv_at hl 0 rfl) ?_
  refine lv_aload_n hx hb dX10_copy_3 rfl (lv_at hl 1 rfl) ?_
  refine va_alen (ty := .int) (v := 9) hx hb hK hP 0 1 rfl rfl rfl dX10_copy_4 ?_
  refine lv_icmp_ge (tgt := 20) hx hb dX10_copy_5 (by decide) (fun c => absurd c (by decide)) (fun _ => ?_)
  refine lv_aload_n hx hb dX10_copy_8 rfl (lv_at hl 2 rfl) ?_
  refine lv_iload_n hx hb dX10_copy_9 rfl (lv_at hl 0 rfl) ?_
  refine lv_aload_n hx hb dX10_copy_10 rfl (lv_at hl 1 rfl) ?_
  refine lv_iload_n hx hb dX10_copy_11 rfl (lv_at hl 0 rfl) ?_
  refine va_iald (i := 0) hx hb hK hP 0 1 rfl rfl (vp_in_iff.mpr (by decide)) dX10_copy_12 ?_
  refine kt_eq (y := 0) (by decide +kernel) ?_
  refine kn_iastS (i := 0) (x := 0) hx hb hK hP hD hS 1 1 rfl rfl (vp_in_iff.mpr (by decide)) (by decide +kernel) dX10_copy_13 (fun H locs hP hD hS => ?_)
  refine lv_iinc (v := 1) (lv' := [(2, .int 1), (0, .ref h0), (1, .ref h1)]) hx hb dX10_copy_14 hl (k := 0) rfl (by decide) (by decide) rfl (fun ls hl => ?_)
  refine lv_goto (tgt := 2) hx hb dX10_copy_17 (by decide) ?_
  refine lv_iload_n hx hb dX10_copy_2 rfl (lv_at hl 0 rfl) ?_
  refine lv_aload_n hx hb dX10_copy_3 rfl (lv_at hl 1 rfl) ?_
  refine va_alen (ty := .int) (v := 9) hx hb hK hP 0 1 rfl rfl rfl dX10_copy_4 ?_
  refine lv_icmp_ge (tgt := 20) hx hb dX10_copy_5 (by decide) (fun c => absurd c (by decide)) (fun _ => ?_)
  refine lv_aload_n hx hb dX10_copy_8 rfl (lv_at hl 2 rfl) ?_
  refine lv_iload_n hx hb dX10_copy_9 rfl (lv_at hl 0 rfl) ?_
  refine lv_aload_n hx hb dX10_copy_10 rfl (lv_at hl 1 rfl) ?_
  refine lv_iload_n hx hb dX10_copy_11 rfl (lv_at hl 0 rfl) ?_
  refine va_iald (i := 1) hx hb hK hP 0 1 rfl rfl (vp_in_iff.mpr (by decide)) dX10_copy_12 ?_
  refine kt_eq (y := 0) (by decide +kernel) ?_
  refine kn_iastS (i := 1) (x := 0) hx hb hK hP hD hS 1 1 rfl rfl (vp_in_iff.mpr (by decide)) (by decide +kernel) dX10_copy_13 (fun H locs hP hD hS => ?_)
  refine lv_iinc (v := 2) (lv' := [(2, .int 2), (0, .ref h0), (1, .ref h1)]) hx hb dX10_copy_14 hl (k := 0) rfl (by decide) (by decide) rfl (fun ls hl => ?_)
  refine lv_goto (tgt := 2) hx hb dX10_copy_17 (by decide) ?_
  refine lv_iload_n hx hb dX10_copy_2 rfl (lv_at hl 0 rfl) ?_
  refine lv_aload_n hx hb dX10_copy_3 rfl (lv_at hl 1 rfl) ?_
  refine va_alen (ty := .int) (v := 9) hx hb hK hP 0 1 rfl rfl rfl dX10_copy_4 ?_
  refine lv_icmp_ge (tgt := 20) hx hb dX10_copy_5 (by decide) (fun c => absurd c (by decide)) (fun _ => ?_)
  refine lv_aload_n hx hb dX10_copy_8 rfl (lv_at hl 2 rfl) ?_
  refine lv_iload_n hx hb dX10_copy_9 rfl (lv_at hl 0 rfl) ?_
  refine lv_aload_n hx hb dX10_copy_10 rfl (lv_at hl 1 rfl) ?_
  refine lv_iload_n hx hb dX10_copy_11 rfl (lv_at hl 0 rfl) ?_
  refine va_iald (i := 2) hx hb hK hP 0 1 rfl rfl (vp_in_iff.mpr (by decide)) dX10_copy_12 ?_
  refine kt_eq (y := 0) (by decide +kernel) ?_
  refine kn_iastS (i := 2) (x := 0) hx hb hK hP hD hS 1 1 rfl rfl (vp_in_iff.mpr (by decide)) (by decide +kernel) dX10_copy_13 (fun H locs hP hD hS => ?_)
  refine lv_iinc (v := 3) (lv' := [(2, .int 3), (0, .ref h0), (1, .ref h1)]) hx hb dX10_copy_14 hl (k := 0) rfl (by decide) (by decide) rfl (fun ls hl => ?_)
  refine lv_goto (tgt := 2) hx hb dX10_copy_17 (by decide) ?_
  refine lv_iload_n hx hb dX10_copy_2 rfl (lv_at hl 0 rfl) ?_
  refine lv_aload_n hx hb dX10_copy_3 rfl (lv_at hl 1 rfl) ?_
  refine va_alen (ty := .int) (v := 9) hx hb hK hP 0 1 rfl rfl rfl dX10_copy_4 ?_
  refine lv_icmp_ge (tgt := 20) hx hb dX10_copy_5 (by decide) (fun c => absurd c (by decide)) (fun _ => ?_)
  refine lv_aload_n hx hb dX10_copy_8 rfl (lv_at hl 2 rfl) ?_
  refine lv_iload_n hx hb dX10_copy_9 rfl (lv_at hl 0 rfl) ?_
  refine lv_aload_n hx hb dX10_copy_10 rfl (lv_at hl 1 rfl) ?_
  refine lv_iload_n hx hb dX10_copy_11 rfl (lv_at hl 0 rfl) ?_
  refine va_iald (i := 3) hx hb hK hP 0 1 rfl rfl (vp_in_iff.mpr (by decide)) dX10_copy_12 ?_
  refine kt_eq (y := 5) (by decide +kernel) ?_
  refine va_iast (i := 3) (x := 5) hx hb hK hP hD hS 1 1 rfl rfl (vp_in_iff.mpr (by decide)) dX10_copy_13 (fun H locs hP hD hS => ?_)
  have hP : va_P D vwCl [(h0, .inl (cI, 9, .inl (upd (upd (upd (fun _ => 0) (Int32.toNatClampNeg 3) 5) (Int32.toNatClampNeg 4) 9) (Int32.toNatClampNeg 7) 1))), (h1, .inl (cI, 9, .inl (upd (fun _ => 0) (Int32.toNatClampNeg 3) 5)))] H := hP
  have hD : va_D A [(h0, .inl (cI, 9, .inl (upd (upd (upd (fun _ => 0) (Int32.toNatClampNeg 3) 5) (Int32.toNatClampNeg 4) 9) (Int32.toNatClampNeg 7) 1))), (h1, .inl (cI, 9, .inl (upd (fun _ => 0) (Int32.toNatClampNeg 3) 5)))] := hD
  refine lv_iinc (v := 4) (lv' := [(2, .int 4), (0, .ref h0), (1, .ref h1)]) hx hb dX10_copy_14 hl (k := 0) rfl (by decide) (by decide) rfl (fun ls hl => ?_)
  refine lv_goto (tgt := 2) hx hb dX10_copy_17 (by decide) ?_
  refine lv_iload_n hx hb dX10_copy_2 rfl (lv_at hl 0 rfl) ?_
  refine lv_aload_n hx hb dX10_copy_3 rfl (lv_at hl 1 rfl) ?_
  refine va_alen (ty := .int) (v := 9) hx hb hK hP 0 1 rfl rfl rfl dX10_copy_4 ?_
  refine lv_icmp_ge (tgt := 20) hx hb dX10_copy_5 (by decide) (fun c => absurd c (by decide)) (fun _ => ?_)
  refine lv_aload_n hx hb dX10_copy_8 rfl (lv_at hl 2 rfl) ?_
  refine lv_iload_n hx hb dX10_copy_9 rfl (lv_at hl 0 rfl) ?_
  refine lv_aload_n hx hb dX10_copy_10 rfl (lv_at hl 1 rfl) ?_
  refine lv_iload_n hx hb dX10_copy_11 rfl (lv_at hl 0 rfl) ?_
  refine va_iald (i := 4) hx hb hK hP 0 1 rfl rfl (vp_in_iff.mpr (by decide)) dX10_copy_12 ?_
  refine kt_eq (y := 9) (by decide +kernel) ?_
  refine va_iast (i := 4) (x := 9) hx hb hK hP hD hS 1 1 rfl rfl (vp_in_iff.mpr (by decide)) dX10_copy_13 (fun H locs hP hD hS => ?_)
  have hP : va_P D vwCl [(h0, .inl (cI, 9, .inl (upd (upd (upd (fun _ => 0) (Int32.toNatClampNeg 3) 5) (Int32.toNatClampNeg 4) 9) (Int32.toNatClampNeg 7) 1))), (h1, .inl (cI, 9, .inl (upd (upd (fun _ => 0) (Int32.toNatClampNeg 3) 5) (Int32.toNatClampNeg 4) 9)))] H := hP
  have hD : va_D A [(h0, .inl (cI, 9, .inl (upd (upd (upd (fun _ => 0) (Int32.toNatClampNeg 3) 5) (Int32.toNatClampNeg 4) 9) (Int32.toNatClampNeg 7) 1))), (h1, .inl (cI, 9, .inl (upd (upd (fun _ => 0) (Int32.toNatClampNeg 3) 5) (Int32.toNatClampNeg 4) 9)))] := hD
  refine lv_iinc (v := 5) (lv' := [(2, .int 5), (0, .ref h0), (1, .ref h1)]) hx hb dX10_copy_14 hl (k := 0) rfl (by decide) (by decide) rfl (fun ls hl => ?_)
  refine lv_goto (tgt := 2) hx hb dX10_copy_17 (by decide) ?_
  refine lv_iload_n hx hb dX10_copy_2 rfl (lv_at hl 0 rfl) ?_
  refine lv_aload_n hx hb dX10_copy_3 rfl (lv_at hl 1 rfl) ?_
  refine va_alen (ty := .int) (v := 9) hx hb hK hP 0 1 rfl rfl rfl dX10_copy_4 ?_
  refine lv_icmp_ge (tgt := 20) hx hb dX10_copy_5 (by decide) (fun c => absurd c (by decide)) (fun _ => ?_)
  refine lv_aload_n hx hb dX10_copy_8 rfl (lv_at hl 2 rfl) ?_
  refine lv_iload_n hx hb dX10_copy_9 rfl (lv_at hl 0 rfl) ?_
  refine lv_aload_n hx hb dX10_copy_10 rfl (lv_at hl 1 rfl) ?_
  refine lv_iload_n hx hb dX10_copy_11 rfl (lv_at hl 0 rfl) ?_
  refine va_iald (i := 5) hx hb hK hP 0 1 rfl rfl (vp_in_iff.mpr (by decide)) dX10_copy_12 ?_
  refine kt_eq (y := 0) (by decide +kernel) ?_
  refine kn_iastS (i := 5) (x := 0) hx hb hK hP hD hS 1 1 rfl rfl (vp_in_iff.mpr (by decide)) (by decide +kernel) dX10_copy_13 (fun H locs hP hD hS => ?_)
  refine lv_iinc (v := 6) (lv' := [(2, .int 6), (0, .ref h0), (1, .ref h1)]) hx hb dX10_copy_14 hl (k := 0) rfl (by decide) (by decide) rfl (fun ls hl => ?_)
  refine lv_goto (tgt := 2) hx hb dX10_copy_17 (by decide) ?_
  refine lv_iload_n hx hb dX10_copy_2 rfl (lv_at hl 0 rfl) ?_
  refine lv_aload_n hx hb dX10_copy_3 rfl (lv_at hl 1 rfl) ?_
  refine va_alen (ty := .int) (v := 9) hx hb hK hP 0 1 rfl rfl rfl dX10_copy_4 ?_
  refine lv_icmp_ge (tgt := 20) hx hb dX10_copy_5 (by decide) (fun c => absurd c (by decide)) (fun _ => ?_)
  refine lv_aload_n hx hb dX10_copy_8 rfl (lv_at hl 2 rfl) ?_
  refine lv_iload_n hx hb dX10_copy_9 rfl (lv_at hl 0 rfl) ?_
  refine lv_aload_n hx hb dX10_copy_10 rfl (lv_at hl 1 rfl) ?_
  refine lv_iload_n hx hb dX10_copy_11 rfl (lv_at hl 0 rfl) ?_
  refine va_iald (i := 6) hx hb hK hP 0 1 rfl rfl (vp_in_iff.mpr (by decide)) dX10_copy_12 ?_
  refine kt_eq (y := 0) (by decide +kernel) ?_
  refine kn_iastS (i := 6) (x := 0) hx hb hK hP hD hS 1 1 rfl rfl (vp_in_iff.mpr (by decide)) (by decide +kernel) dX10_copy_13 (fun H locs hP hD hS => ?_)
  refine lv_iinc (v := 7) (lv' := [(2, .int 7), (0, .ref h0), (1, .ref h1)]) hx hb dX10_copy_14 hl (k := 0) rfl (by decide) (by decide) rfl (fun ls hl => ?_)
  refine lv_goto (tgt := 2) hx hb dX10_copy_17 (by decide) ?_
  refine lv_iload_n hx hb dX10_copy_2 rfl (lv_at hl 0 rfl) ?_
  refine lv_aload_n hx hb dX10_copy_3 rfl (lv_at hl 1 rfl) ?_
  refine va_alen (ty := .int) (v := 9) hx hb hK hP 0 1 rfl rfl rfl dX10_copy_4 ?_
  refine lv_icmp_ge (tgt := 20) hx hb dX10_copy_5 (by decide) (fun c => absurd c (by decide)) (fun _ => ?_)
  refine lv_aload_n hx hb dX10_copy_8 rfl (lv_at hl 2 rfl) ?_
  refine lv_iload_n hx hb dX10_copy_9 rfl (lv_at hl 0 rfl) ?_
  refine lv_aload_n hx hb dX10_copy_10 rfl (lv_at hl 1 rfl) ?_
  refine lv_iload_n hx hb dX10_copy_11 rfl (lv_at hl 0 rfl) ?_
  refine va_iald (i := 7) hx hb hK hP 0 1 rfl rfl (vp_in_iff.mpr (by decide)) dX10_copy_12 ?_
  refine kt_eq (y := 1) (by decide +kernel) ?_
  refine va_iast (i := 7) (x := 1) hx hb hK hP hD hS 1 1 rfl rfl (vp_in_iff.mpr (by decide)) dX10_copy_13 (fun H locs hP hD hS => ?_)
  have hP : va_P D vwCl [(h0, .inl (cI, 9, .inl (upd (upd (upd (fun _ => 0) (Int32.toNatClampNeg 3) 5) (Int32.toNatClampNeg 4) 9) (Int32.toNatClampNeg 7) 1))), (h1, .inl (cI, 9, .inl (upd (upd (upd (fun _ => 0) (Int32.toNatClampNeg 3) 5) (Int32.toNatClampNeg 4) 9) (Int32.toNatClampNeg 7) 1)))] H := hP
  have hD : va_D A [(h0, .inl (cI, 9, .inl (upd (upd (upd (fun _ => 0) (Int32.toNatClampNeg 3) 5) (Int32.toNatClampNeg 4) 9) (Int32.toNatClampNeg 7) 1))), (h1, .inl (cI, 9, .inl (upd (upd (upd (fun _ => 0) (Int32.toNatClampNeg 3) 5) (Int32.toNatClampNeg 4) 9) (Int32.toNatClampNeg 7) 1)))] := hD
  refine lv_iinc (v := 8) (lv' := [(2, .int 8), (0, .ref h0), (1, .ref h1)]) hx hb dX10_copy_14 hl (k := 0) rfl (by decide) (by decide) rfl (fun ls hl => ?_)
  refine lv_goto (tgt := 2) hx hb dX10_copy_17 (by decide) ?_
  refine lv_iload_n hx hb dX10_copy_2 rfl (lv_at hl 0 rfl) ?_
  refine lv_aload_n hx hb dX10_copy_3 rfl (lv_at hl 1 rfl) ?_
  refine va_alen (ty := .int) (v := 9) hx hb hK hP 0 1 rfl rfl rfl dX10_copy_4 ?_
  refine lv_icmp_ge (tgt := 20) hx hb dX10_copy_5 (by decide) (fun c => absurd c (by decide)) (fun _ => ?_)
  refine lv_aload_n hx hb dX10_copy_8 rfl (lv_at hl 2 rfl) ?_
  refine lv_iload_n hx hb dX10_copy_9 rfl (lv_at hl 0 rfl) ?_
  refine lv_aload_n hx hb dX10_copy_10 rfl (lv_at hl 1 rfl) ?_
  refine lv_iload_n hx hb dX10_copy_11 rfl (lv_at hl 0 rfl) ?_
  refine va_iald (i := 8) hx hb hK hP 0 1 rfl rfl (vp_in_iff.mpr (by decide)) dX10_copy_12 ?_
  refine kt_eq (y := 0) (by decide +kernel) ?_
  refine kn_iastS (i := 8) (x := 0) hx hb hK hP hD hS 1 1 rfl rfl (vp_in_iff.mpr (by decide)) (by decide +kernel) dX10_copy_13 (fun H locs hP hD hS => ?_)
  refine lv_iinc (v := 9) (lv' := [(2, .int 9), (0, .ref h0), (1, .ref h1)]) hx hb dX10_copy_14 hl (k := 0) rfl (by decide) (by decide) rfl (fun ls hl => ?_)
  refine lv_goto (tgt := 2) hx hb dX10_copy_17 (by decide) ?_
  refine lv_iload_n hx hb dX10_copy_2 rfl (lv_at hl 0 rfl) ?_
  refine lv_aload_n hx hb dX10_copy_3 rfl (lv_at hl 1 rfl) ?_
  refine va_alen (ty := .int) (v := 9) hx hb hK hP 0 1 rfl rfl rfl dX10_copy_4 ?_
  refine lv_icmp_ge (tgt := 20) hx hb dX10_copy_5 (by decide) (fun _ => ?_) (fun c => absurd (by decide) c)
  refine W.widen (k := 0) (n := 0) (Nat.le_of_ble_eq_true rfl) (Nat.le_of_ble_eq_true rfl) ?_
  have hP9 := hP.sub (ws' := [(h0, .inl (cI, 9, .inl (upd (upd (upd (fun _ => 0) (Int32.toNatClampNeg 3) 5) (Int32.toNatClampNeg 4) 9) (Int32.toNatClampNeg 7) 1))), (h1, .inl (cI, 9, .inl (upd (upd (upd (fun _ => 0) (Int32.toNatClampNeg 3) 5) (Int32.toNatClampNeg 4) 9) (Int32.toNatClampNeg 7) 1)))]) [0, 1] rfl
  have hD9 := hD.sub (ws' := [(h0, .inl (cI, 9, .inl (upd (upd (upd (fun _ => 0) (Int32.toNatClampNeg 3) 5) (Int32.toNatClampNeg 4) 9) (Int32.toNatClampNeg 7) 1))), (h1, .inl (cI, 9, .inl (upd (upd (upd (fun _ => 0) (Int32.toNatClampNeg 3) 5) (Int32.toNatClampNeg 4) 9) (Int32.toNatClampNeg 7) 1)))]) [0, 1] (by decide) rfl
  exact W.vret hx hb hr (fun t ht hW => ⟨⟨(), rfl, trivial, ⟨by rw [ht]; exact hP9, hD9⟩⟩, hS.F ht⟩) hS.2.2 dX10_copy_20
def sw_k_X10_copy_2 : List Cond := .code yX10_copy cX10_copy 3 none :: (([] : List Cond) ++ (([] : List Cond)))
theorem gd_k_X10_copy_2 : ∀ w ∈ sw_k_X10_copy_2, (w.onTables && w.keeps) = true ∨ ∃ ty, w = .arrayClass ty := List.forall_mem_cons.mpr ⟨good_of_word rfl, List.forall_mem_append.mpr ⟨fun w h => good_of_word (List.all_eq_true.mp (by decide +kernel : (([] : List Cond)).all goodWord = true) w h), fun _ h => absurd h List.not_mem_nil⟩⟩
set_option maxHeartbeats 4000000 in
set_option maxRecDepth 100000 in
theorem k_X10_copy_2 (l : Launch) (D : va_G) (cC cI cZ : ClassId) (h0 h1 : Nat) (sz : Nat) : Met l yX10_copy sw_k_X10_copy_2 ({ frames := 2, cells := 0, slots := 0, locals := 100 }) (va_Pc [.ref h0, .ref h1] (kPre D cC cI cZ [(h0, .inl (cI, 6, .inl (fun _ => 0))), (h1, .inl (cI, 6, .inl (fun _ => 0)))] sz)) (va_Qv (fun (_ : Unit) => True) (fun _ t => va_P D vwCl [(h0, .inl (cI, 6, .inl (fun _ => 0))), (h1, .inl (cI, 6, .inl (fun _ => 0)))] t.heap ∧ va_D (va_A [(h0, .inl (cI, 6, .inl (fun _ => 0))), (h1, .inl (cI, 6, .inl (fun _ => 0)))] sz) [(h0, .inl (cI, 6, .inl (fun _ => 0))), (h1, .inl (cI, 6, .inl (fun _ => 0)))]) (va_A [(h0, .inl (cI, 6, .inl (fun _ => 0))), (h1, .inl (cI, 6, .inl (fun _ => 0)))] sz)) 0 0 (va_A [(h0, .inl (cI, 6, .inl (fun _ => 0))), (h1, .inl (cI, 6, .inl (fun _ => 0)))] sz) := by
  refine Met.ofW (cc := cX10_copy) (maxL := 3) (ret := none) (by decide) rfl ?_
  intro p e s m args below meth c s₁ B hml hv
  obtain ⟨rfl, hsz, hP, hK, hD0⟩ := hv
  have hx := B.exec
  have hb := B.bytes
  have hr := B.returns
  have hts := atoms_spec (ws := sw_k_X10_copy_2) B.pre
  have hown : s.vm.findClass RX10 = some m.cls := findClass_of_methodNamed B.named
  have hlocks := B.notSynchronized
  subst hsz
  have hD := hD0.self (sz := s.heap.size)
  generalize hAe : va_A [(h0, .inl (cI, 6, .inl (fun _ => 0))), (h1, .inl (cI, 6, .inl (fun _ => 0)))] s.heap.size = A at hD ⊢
  have hA : ∀ q : Nat, s.heap.size ≤ q → A q := fun q h => by rw [← hAe]; exact Or.inr h
  have hS : va_S A s.heap s.heap [] := va_S.rf
  have hl := lv_entry ([.ref h0, .ref h1]) (n := 3) (Nat.le_of_ble_eq_true rfl)
  rw [lg_entry_eq]
  generalize (lg_sl ([.ref h0, .ref h1]) ++ List.replicate (3 - (lg_sl ([.ref h0, .ref h1])).length) Slot.unset).toArray = ls at hl ⊢
  have hl : lv_has ls 3 [(0, .ref h0), (1, .ref h1)] := hl
  refine lv_iconst (v := 0) hx hb dX10_copy_0 (by decide) ?_
  refine lv_istore_n (lv' := [(2, .int 0), (0, .ref h0), (1, .ref h1)]) hx hb dX10_copy_1 rfl hl (by decide) rfl (fun ls hl => ?_)
  refine lv_iload_n hx hb dX10_copy_2 rfl (lv_at hl 0 rfl) ?_
  refine lv_aload_n hx hb dX10_copy_3 rfl (lv_at hl 1 rfl) ?_
  refine va_alen (ty := .int) (v := 6) hx hb hK hP 0 1 rfl rfl rfl dX10_copy_4 ?_
  refine lv_icmp_ge (tgt := 20) hx hb dX10_copy_5 (by decide) (fun c => absurd c (by decide)) (fun _ => ?_)
  refine lv_aload_n hx hb dX10_copy_8 rfl (lv_at hl 2 rfl) ?_
  refine lv_iload_n hx hb dX10_copy_9 rfl (lv_at hl 0 rfl) ?_
  refine lv_aload_n hx hb dX10_copy_10 rfl (lv_at hl 1 rfl) ?_
  refine lv_iload_n hx hb dX10_copy_11 rfl (lv_at hl 0 rfl) ?_
  refine va_iald (i := 0) hx hb hK hP 0 1 rfl rfl (vp_in_iff.mpr (by decide)) dX10_copy_12 ?_
  refine kt_eq (y := 0) (by decide +kernel) ?_
  refine kn_iastS (i := 0) (x := 0) hx hb hK hP hD hS 1 1 rfl rfl (vp_in_iff.mpr (by decide)) (by decide +kernel) dX10_copy_13 (fun H locs hP hD hS => ?_)
  refine lv_iinc (v := 1) (lv' := [(2, .int 1), (0, .ref h0), (1, .ref h1)]) hx hb dX10_copy_14 hl (k := 0) rfl (by decide) (by decide) rfl (fun ls hl => ?_)
  refine lv_goto (tgt := 2) hx hb dX10_copy_17 (by decide) ?_
  refine lv_iload_n hx hb dX10_copy_2 rfl (lv_at hl 0 rfl) ?_
  refine lv_aload_n hx hb dX10_copy_3 rfl (lv_at hl 1 rfl) ?_
  refine va_alen (ty := .int) (v := 6) hx hb hK hP 0 1 rfl rfl rfl dX10_copy_4 ?_
  refine lv_icmp_ge (tgt := 20) hx hb dX10_copy_5 (by decide) (fun c => absurd c (by decide)) (fun _ => ?_)
  refine lv_aload_n hx hb dX10_copy_8 rfl (lv_at hl 2 rfl) ?_
  refine lv_iload_n hx hb dX10_copy_9 rfl (lv_at hl 0 rfl) ?_
  refine lv_aload_n hx hb dX10_copy_10 rfl (lv_at hl 1 rfl) ?_
  refine lv_iload_n hx hb dX10_copy_11 rfl (lv_at hl 0 rfl) ?_
  refine va_iald (i := 1) hx hb hK hP 0 1 rfl rfl (vp_in_iff.mpr (by decide)) dX10_copy_12 ?_
  refine kt_eq (y := 0) (by decide +kernel) ?_
  refine kn_iastS (i := 1) (x := 0) hx hb hK hP hD hS 1 1 rfl rfl (vp_in_iff.mpr (by decide)) (by decide +kernel) dX10_copy_13 (fun H locs hP hD hS => ?_)
  refine lv_iinc (v := 2) (lv' := [(2, .int 2), (0, .ref h0), (1, .ref h1)]) hx hb dX10_copy_14 hl (k := 0) rfl (by decide) (by decide) rfl (fun ls hl => ?_)
  refine lv_goto (tgt := 2) hx hb dX10_copy_17 (by decide) ?_
  refine lv_iload_n hx hb dX10_copy_2 rfl (lv_at hl 0 rfl) ?_
  refine lv_aload_n hx hb dX10_copy_3 rfl (lv_at hl 1 rfl) ?_
  refine va_alen (ty := .int) (v := 6) hx hb hK hP 0 1 rfl rfl rfl dX10_copy_4 ?_
  refine lv_icmp_ge (tgt := 20) hx hb dX10_copy_5 (by decide) (fun c => absurd c (by decide)) (fun _ => ?_)
  refine lv_aload_n hx hb dX10_copy_8 rfl (lv_at hl 2 rfl) ?_
  refine lv_iload_n hx hb dX10_copy_9 rfl (lv_at hl 0 rfl) ?_
  refine lv_aload_n hx hb dX10_copy_10 rfl (lv_at hl 1 rfl) ?_
  refine lv_iload_n hx hb dX10_copy_11 rfl (lv_at hl 0 rfl) ?_
  refine va_iald (i := 2) hx hb hK hP 0 1 rfl rfl (vp_in_iff.mpr (by decide)) dX10_copy_12 ?_
  refine kt_eq (y := 0) (by decide +kernel) ?_
  refine kn_iastS (i := 2) (x := 0) hx hb hK hP hD hS 1 1 rfl rfl (vp_in_iff.mpr (by decide)) (by decide +kernel) dX10_copy_13 (fun H locs hP hD hS => ?_)
  refine lv_iinc (v := 3) (lv' := [(2, .int 3), (0, .ref h0), (1, .ref h1)]) hx hb dX10_copy_14 hl (k := 0) rfl (by decide) (by decide) rfl (fun ls hl => ?_)
  refine lv_goto (tgt := 2) hx hb dX10_copy_17 (by decide) ?_
  refine lv_iload_n hx hb dX10_copy_2 rfl (lv_at hl 0 rfl) ?_
  refine lv_aload_n hx hb dX10_copy_3 rfl (lv_at hl 1 rfl) ?_
  refine va_alen (ty := .int) (v := 6) hx hb hK hP 0 1 rfl rfl rfl dX10_copy_4 ?_
  refine lv_icmp_ge (tgt := 20) hx hb dX10_copy_5 (by decide) (fun c => absurd c (by decide)) (fun _ => ?_)
  refine lv_aload_n hx hb dX10_copy_8 rfl (lv_at hl 2 rfl) ?_
  refine lv_iload_n hx hb dX10_copy_9 rfl (lv_at hl 0 rfl) ?_
  refine lv_aload_n hx hb dX10_copy_10 rfl (lv_at hl 1 rfl) ?_
  refine lv_iload_n hx hb dX10_copy_11 rfl (lv_at hl 0 rfl) ?_
  refine va_iald (i := 3) hx hb hK hP 0 1 rfl rfl (vp_in_iff.mpr (by decide)) dX10_copy_12 ?_
  refine kt_eq (y := 0) (by decide +kernel) ?_
  refine kn_iastS (i := 3) (x := 0) hx hb hK hP hD hS 1 1 rfl rfl (vp_in_iff.mpr (by decide)) (by decide +kernel) dX10_copy_13 (fun H locs hP hD hS => ?_)
  refine lv_iinc (v := 4) (lv' := [(2, .int 4), (0, .ref h0), (1, .ref h1)]) hx hb dX10_copy_14 hl (k := 0) rfl (by decide) (by decide) rfl (fun ls hl => ?_)
  refine lv_goto (tgt := 2) hx hb dX10_copy_17 (by decide) ?_
  refine lv_iload_n hx hb dX10_copy_2 rfl (lv_at hl 0 rfl) ?_
  refine lv_aload_n hx hb dX10_copy_3 rfl (lv_at hl 1 rfl) ?_
  refine va_alen (ty := .int) (v := 6) hx hb hK hP 0 1 rfl rfl rfl dX10_copy_4 ?_
  refine lv_icmp_ge (tgt := 20) hx hb dX10_copy_5 (by decide) (fun c => absurd c (by decide)) (fun _ => ?_)
  refine lv_aload_n hx hb dX10_copy_8 rfl (lv_at hl 2 rfl) ?_
  refine lv_iload_n hx hb dX10_copy_9 rfl (lv_at hl 0 rfl) ?_
  refine lv_aload_n hx hb dX10_copy_10 rfl (lv_at hl 1 rfl) ?_
  refine lv_iload_n hx hb dX10_copy_11 rfl (lv_at hl 0 rfl) ?_
  refine va_iald (i := 4) hx hb hK hP 0 1 rfl rfl (vp_in_iff.mpr (by decide)) dX10_copy_12 ?_
  refine kt_eq (y := 0) (by decide +kernel) ?_
  refine kn_iastS (i := 4) (x := 0) hx hb hK hP hD hS 1 1 rfl rfl (vp_in_iff.mpr (by decide)) (by decide +kernel) dX10_copy_13 (fun H locs hP hD hS => ?_)
  refine lv_iinc (v := 5) (lv' := [(2, .int 5), (0, .ref h0), (1, .ref h1)]) hx hb dX10_copy_14 hl (k := 0) rfl (by decide) (by decide) rfl (fun ls hl => ?_)
  refine lv_goto (tgt := 2) hx hb dX10_copy_17 (by decide) ?_
  refine lv_iload_n hx hb dX10_copy_2 rfl (lv_at hl 0 rfl) ?_
  refine lv_aload_n hx hb dX10_copy_3 rfl (lv_at hl 1 rfl) ?_
  refine va_alen (ty := .int) (v := 6) hx hb hK hP 0 1 rfl rfl rfl dX10_copy_4 ?_
  refine lv_icmp_ge (tgt := 20) hx hb dX10_copy_5 (by decide) (fun c => absurd c (by decide)) (fun _ => ?_)
  refine lv_aload_n hx hb dX10_copy_8 rfl (lv_at hl 2 rfl) ?_
  refine lv_iload_n hx hb dX10_copy_9 rfl (lv_at hl 0 rfl) ?_
  refine lv_aload_n hx hb dX10_copy_10 rfl (lv_at hl 1 rfl) ?_
  refine lv_iload_n hx hb dX10_copy_11 rfl (lv_at hl 0 rfl) ?_
  refine va_iald (i := 5) hx hb hK hP 0 1 rfl rfl (vp_in_iff.mpr (by decide)) dX10_copy_12 ?_
  refine kt_eq (y := 0) (by decide +kernel) ?_
  refine kn_iastS (i := 5) (x := 0) hx hb hK hP hD hS 1 1 rfl rfl (vp_in_iff.mpr (by decide)) (by decide +kernel) dX10_copy_13 (fun H locs hP hD hS => ?_)
  refine lv_iinc (v := 6) (lv' := [(2, .int 6), (0, .ref h0), (1, .ref h1)]) hx hb dX10_copy_14 hl (k := 0) rfl (by decide) (by decide) rfl (fun ls hl => ?_)
  refine lv_goto (tgt := 2) hx hb dX10_copy_17 (by decide) ?_
  refine lv_iload_n hx hb dX10_copy_2 rfl (lv_at hl 0 rfl) ?_
  refine lv_aload_n hx hb dX10_copy_3 rfl (lv_at hl 1 rfl) ?_
  refine va_alen (ty := .int) (v := 6) hx hb hK hP 0 1 rfl rfl rfl dX10_copy_4 ?_
  refine lv_icmp_ge (tgt := 20) hx hb dX10_copy_5 (by decide) (fun _ => ?_) (fun c => absurd (by decide) c)
  refine W.widen (k := 0) (n := 0) (Nat.le_of_ble_eq_true rfl) (Nat.le_of_ble_eq_true rfl) ?_
  have hP9 := hP.sub (ws' := [(h0, .inl (cI, 6, .inl (fun _ => 0))), (h1, .inl (cI, 6, .inl (fun _ => 0)))]) [0, 1] rfl
  have hD9 := hD.sub (ws' := [(h0, .inl (cI, 6, .inl (fun _ => 0))), (h1, .inl (cI, 6, .inl (fun _ => 0)))]) [0, 1] (by decide) rfl
  exact W.vret hx hb hr (fun t ht hW => ⟨⟨(), rfl, trivial, ⟨by rw [ht]; exact hP9, hD9⟩⟩, hS.F ht⟩) hS.2.2 dX10_copy_20
