set_option maxHeartbeats 4000000 in
set_option maxRecDepth 100000 in
theorem k_X1_howManyAt (l : Launch) (D : va_G) (cC cI cZ : ClassId) (h0 h1 h2 h3 h4 h5 h6 h7 h8 h9 h10 h11 h12 h13 h14 h15 h16 h17 : Nat) (sz : Nat) (p1 : Int32) : Met l yX1_howManyAt wsX1_howManyAt ({ frames := 8, cells := 0, slots := 0, locals := 400 }) (va_Pc [.ref h0, .int p1] (kPre D cC cI cZ [(h0, .inr (1, [.ref h1, .ref h3, .ref h6, .ref h7, .ref h2, .ref h5, .ref h8, .int 0, .int 0])), (h1, .inr (5, [.int 0, .int 1, .int 1, .int 1, .int 0, .ref h9, .ref h10, .ref h11, .ref h12, .ref h13, .ref h14])), (h2, .inl (cI, 3840, .inl (fun _ => 0))), (h3, .inr (3, [.ref h15, .ref h1, .ref h16, .ref h4, .ref h17, .int 0])), (h4, .inl (cZ, 120, .inl (upd (fun _ => 0) (Int32.toNatClampNeg 0) (vp_nar .boolean 1)))), (h5, .inl (cI, 3840, .inl (fun _ => 0))), (h6, .inl (cI, 3840, .inl (fun _ => 0)))] sz)) (va_Qi (fun (r : Int32) (_ : Unit) => r = (if 0 = p1 then 1 else 0)) (fun _ t => va_P D vwCl [(h0, .inr (1, [.ref h1, .ref h3, .ref h6, .ref h7, .ref h2, .ref h5, .ref h8, .int 1, .int 0])), (h1, .inr (5, [.int 0, .int 1, .int 1, .int 1, .int 0, .ref h9, .ref h10, .ref h11, .ref h12, .ref h13, .ref h14])), (h2, .inl (cI, 3840, .inl (upd (upd (fun _ => 0) (Int32.toNatClampNeg 0) (-1)) (Int32.toNatClampNeg 0) 0))), (h3, .inr (3, [.ref h15, .ref h1, .ref h16, .ref h4, .ref h17, .int 0])), (h4, .inl (cZ, 120, .inl (upd (fun _ => 0) (Int32.toNatClampNeg 0) (vp_nar .boolean 1)))), (h5, .inl (cI, 3840, .inl (upd (fun _ => 0) (Int32.toNatClampNeg 0) 1))), (h6, .inl (cI, 3840, .inl (fun _ => 0)))] t.heap ∧ va_D (va_A [(h0, .inr (1, [.ref h1, .ref h3, .ref h6, .ref h7, .ref h2, .ref h5, .ref h8, .int 0, .int 0])), (h1, .inr (5, [.int 0, .int 1, .int 1, .int 1, .int 0, .ref h9, .ref h10, .ref h11, .ref h12, .ref h13, .ref h14])), (h2, .inl (cI, 3840, .inl (fun _ => 0))), (h3, .inr (3, [.ref h15, .ref h1, .ref h16, .ref h4, .ref h17, .int 0])), (h4, .inl (cZ, 120, .inl (upd (fun _ => 0) (Int32.toNatClampNeg 0) (vp_nar .boolean 1)))), (h5, .inl (cI, 3840, .inl (fun _ => 0))), (h6, .inl (cI, 3840, .inl (fun _ => 0)))] sz) [(h0, .inr (1, [.ref h1, .ref h3, .ref h6, .ref h7, .ref h2, .ref h5, .ref h8, .int 1, .int 0])), (h1, .inr (5, [.int 0, .int 1, .int 1, .int 1, .int 0, .ref h9, .ref h10, .ref h11, .ref h12, .ref h13, .ref h14])), (h2, .inl (cI, 3840, .inl (upd (upd (fun _ => 0) (Int32.toNatClampNeg 0) (-1)) (Int32.toNatClampNeg 0) 0))), (h3, .inr (3, [.ref h15, .ref h1, .ref h16, .ref h4, .ref h17, .int 0])), (h4, .inl (cZ, 120, .inl (upd (fun _ => 0) (Int32.toNatClampNeg 0) (vp_nar .boolean 1)))), (h5, .inl (cI, 3840, .inl (upd (fun _ => 0) (Int32.toNatClampNeg 0) 1))), (h6, .inl (cI, 3840, .inl (fun _ => 0)))]) (va_A [(h0, .inr (1, [.ref h1, .ref h3, .ref h6, .ref h7, .ref h2, .ref h5, .ref h8, .int 0, .int 0])), (h1, .inr (5, [.int 0, .int 1, .int 1, .int 1, .int 0, .ref h9, .ref h10, .ref h11, .ref h12, .ref h13, .ref h14])), (h2, .inl (cI, 3840, .inl (fun _ => 0))), (h3, .inr (3, [.ref h15, .ref h1, .ref h16, .ref h4, .ref h17, .int 0])), (h4, .inl (cZ, 120, .inl (upd (fun _ => 0) (Int32.toNatClampNeg 0) (vp_nar .boolean 1)))), (h5, .inl (cI, 3840, .inl (fun _ => 0))), (h6, .inl (cI, 3840, .inl (fun _ => 0)))] sz)) 0 0 (va_A [(h0, .inr (1, [.ref h1, .ref h3, .ref h6, .ref h7, .ref h2, .ref h5, .ref h8, .int 0, .int 0])), (h1, .inr (5, [.int 0, .int 1, .int 1, .int 1, .int 0, .ref h9, .ref h10, .ref h11, .ref h12, .ref h13, .ref h14])), (h2, .inl (cI, 3840, .inl (fun _ => 0))), (h3, .inr (3, [.ref h15, .ref h1, .ref h16, .ref h4, .ref h17, .int 0])), (h4, .inl (cZ, 120, .inl (upd (fun _ => 0) (Int32.toNatClampNeg 0) (vp_nar .boolean 1)))), (h5, .inl (cI, 3840, .inl (fun _ => 0))), (h6, .inl (cI, 3840, .inl (fun _ => 0)))] sz) := by
  refine Met.ofW (cc := cX1_howManyAt) (maxL := 4) (ret := (some .int)) (by decide) rfl ?_
  intro p e s m args below meth c s₁ B hml hv
  obtain ⟨rfl, hsz, hP, hK, hD0⟩ := hv
  have hx := B.exec
  have hb := B.bytes
  have hr := B.returns
  have hts := atoms_spec (ws := wsX1_howManyAt) B.pre
  have hown : s.vm.findClass RX1 = some m.cls := findClass_of_methodNamed B.named
  have hlocks := B.notSynchronized
  subst hsz
  have hD := hD0.self (sz := s.heap.size)
  generalize hAe : va_A [(h0, .inr (1, [.ref h1, .ref h3, .ref h6, .ref h7, .ref h2, .ref h5, .ref h8, .int 0, .int 0])), (h1, .inr (5, [.int 0, .int 1, .int 1, .int 1, .int 0, .ref h9, .ref h10, .ref h11, .ref h12, .ref h13, .ref h14])), (h2, .inl (cI, 3840, .inl (fun _ => 0))), (h3, .inr (3, [.ref h15, .ref h1, .ref h16, .ref h4, .ref h17, .int 0])), (h4, .inl (cZ, 120, .inl (upd (fun _ => 0) (Int32.toNatClampNeg 0) (vp_nar .boolean 1)))), (h5, .inl (cI, 3840, .inl (fun _ => 0))), (h6, .inl (cI, 3840, .inl (fun _ => 0)))] s.heap.size = A at hD ⊢
  have hA : ∀ q : Nat, s.heap.size ≤ q → A q := fun q h => by rw [← hAe]; exact Or.inr h
  have hS : va_S A s.heap s.heap [] := va_S.rf
  have hl := lv_entry ([.ref h0, .int p1]) (n := 4) (Nat.le_of_ble_eq_true rfl)
  rw [lg_entry_eq]
  generalize (lg_sl ([.ref h0, .int p1]) ++ List.replicate (4 - (lg_sl ([.ref h0, .int p1])).length) Slot.unset).toArray = ls at hl ⊢
  have hl : lv_has ls 4 [(0, .ref h0), (1, .int p1)] := hl
  refine lv_aload_n hx hb dX1_howManyAt_0 rfl (lv_at hl 0 rfl) ?_
  have hPc := hP.sub (ws' := [(h0, .inr (1, [.ref h1, .ref h3, .ref h6, .ref h7, .ref h2, .ref h5, .ref h8, .int 0, .int 0])), (h1, .inr (5, [.int 0, .int 1, .int 1, .int 1, .int 0, .ref h9, .ref h10, .ref h11, .ref h12, .ref h13, .ref h14])), (h2, .inl (cI, 3840, .inl (fun _ => 0))), (h3, .inr (3, [.ref h15, .ref h1, .ref h16, .ref h4, .ref h17, .int 0])), (h4, .inl (cZ, 120, .inl (upd (fun _ => 0) (Int32.toNatClampNeg 0) (vp_nar .boolean 1)))), (h5, .inl (cI, 3840, .inl (fun _ => 0))), (h6, .inl (cI, 3840, .inl (fun _ => 0)))]) [0, 1, 2, 3, 4, 5, 6] rfl
  have hDc := hD.sub (ws' := [(h0, .inr (1, [.ref h1, .ref h3, .ref h6, .ref h7, .ref h2, .ref h5, .ref h8, .int 0, .int 0])), (h1, .inr (5, [.int 0, .int 1, .int 1, .int 1, .int 0, .ref h9, .ref h10, .ref h11, .ref h12, .ref h13, .ref h14])), (h2, .inl (cI, 3840, .inl (fun _ => 0))), (h3, .inr (3, [.ref h15, .ref h1, .ref h16, .ref h4, .ref h17, .int 0])), (h4, .inl (cZ, 120, .inl (upd (fun _ => 0) (Int32.toNatClampNeg 0) (vp_nar .boolean 1)))), (h5, .inl (cI, 3840, .inl (fun _ => 0))), (h6, .inl (cI, 3840, .inl (fun _ => 0)))]) [0, 1, 2, 3, 4, 5, 6] (by decide) rfl
  have hFc := va_free (wc := [(h0, .inr (1, [.ref h1, .ref h3, .ref h6, .ref h7, .ref h2, .ref h5, .ref h8, .int 0, .int 0])), (h1, .inr (5, [.int 0, .int 1, .int 1, .int 1, .int 0, .ref h9, .ref h10, .ref h11, .ref h12, .ref h13, .ref h14])), (h2, .inl (cI, 3840, .inl (fun _ => 0))), (h3, .inr (3, [.ref h15, .ref h1, .ref h16, .ref h4, .ref h17, .int 0])), (h4, .inl (cZ, 120, .inl (upd (fun _ => 0) (Int32.toNatClampNeg 0) (vp_nar .boolean 1)))), (h5, .inl (cI, 3840, .inl (fun _ => 0))), (h6, .inl (cI, 3840, .inl (fun _ => 0)))]) hD hS hA [0, 1, 2, 3, 4, 5, 6] rfl
  refine va_callv (va_runV (As := []) (rest := []) ⟨hx, hb, hml, hown, hts⟩ (k_X1_measure l D cC cI cZ h0 h1 h2 h3 h4 h5 h6 h7 h8 h9 h10 h11 h12 h13 h14 h15 h16 h17 s.heap.size ) (cwV 0 hts gX1_howManyAt_X1_measure rfl rfl rfl (by decide +kernel) ⟨(Nat.le_of_ble_eq_true rfl), (Nat.le_of_ble_eq_true rfl)⟩) (kPreV hK hPc hDc (va_recv hK hPc (ci := 1) (q0 := 0) rfl rfl)) rfl rfl hl.1 rfl (lv_room (Nat.le_of_ble_eq_true rfl)) dX1_howManyAt_1 ⟨(Nat.le_of_ble_eq_true rfl), (Nat.le_of_ble_eq_true rfl)⟩) hS (fun q _ h => hFc q h) hFc (fun u t H1 locs ht hvm hw hB hz1 hk1 hS => ?_)
  obtain ⟨hP1, hD1⟩ := hB
  rw [ht] at hP1
  obtain ⟨hP, hD⟩ := va_join (wr := []) (w1 := [(h0, .inr (1, [.ref h1, .ref h3, .ref h6, .ref h7, .ref h2, .ref h5, .ref h8, .int 1, .int 0])), (h1, .inr (5, [.int 0, .int 1, .int 1, .int 1, .int 0, .ref h9, .ref h10, .ref h11, .ref h12, .ref h13, .ref h14])), (h2, .inl (cI, 3840, .inl (upd (upd (fun _ => 0) (Int32.toNatClampNeg 0) (-1)) (Int32.toNatClampNeg 0) 0))), (h3, .inr (3, [.ref h15, .ref h1, .ref h16, .ref h4, .ref h17, .int 0])), (h4, .inl (cZ, 120, .inl (upd (fun _ => 0) (Int32.toNatClampNeg 0) (vp_nar .boolean 1)))), (h5, .inl (cI, 3840, .inl (upd (fun _ => 0) (Int32.toNatClampNeg 0) 1))), (h6, .inl (cI, 3840, .inl (fun _ => 0)))]) hP hD [0, 1, 2, 3, 4, 5, 6] [] rfl rfl (by decide) (by decide) hk1 hFc hP1 hD1
  generalize H1 = H at hP hS ⊢
  have hP : va_P D vwCl [(h0, .inr (1, [.ref h1, .ref h3, .ref h6, .ref h7, .ref h2, .ref h5, .ref h8, .int 1, .int 0])), (h1, .inr (5, [.int 0, .int 1, .int 1, .int 1, .int 0, .ref h9, .ref h10, .ref h11, .ref h12, .ref h13, .ref h14])), (h2, .inl (cI, 3840, .inl (upd (upd (fun _ => 0) (Int32.toNatClampNeg 0) (-1)) (Int32.toNatClampNeg 0) 0))), (h3, .inr (3, [.ref h15, .ref h1, .ref h16, .ref h4, .ref h17, .int 0])), (h4, .inl (cZ, 120, .inl (upd (fun _ => 0) (Int32.toNatClampNeg 0) (vp_nar .boolean 1)))), (h5, .inl (cI, 3840, .inl (upd (fun _ => 0) (Int32.toNatClampNeg 0) 1))), (h6, .inl (cI, 3840, .inl (fun _ => 0)))] H := hP
  have hD : va_D A [(h0, .inr (1, [.ref h1, .ref h3, .ref h6, .ref h7, .ref h2, .ref h5, .ref h8, .int 1, .int 0])), (h1, .inr (5, [.int 0, .int 1, .int 1, .int 1, .int 0, .ref h9, .ref h10, .ref h11, .ref h12, .ref h13, .ref h14])), (h2, .inl (cI, 3840, .inl (upd (upd (fun _ => 0) (Int32.toNatClampNeg 0) (-1)) (Int32.toNatClampNeg 0) 0))), (h3, .inr (3, [.ref h15, .ref h1, .ref h16, .ref h4, .ref h17, .int 0])), (h4, .inl (cZ, 120, .inl (upd (fun _ => 0) (Int32.toNatClampNeg 0) (vp_nar .boolean 1)))), (h5, .inl (cI, 3840, .inl (upd (fun _ => 0) (Int32.toNatClampNeg 0) 1))), (h6, .inl (cI, 3840, .inl (fun _ => 0)))] := hD
  refine lv_iconst (v := 0) hx hb dX1_howManyAt_4 (by decide) ?_
  refine lv_istore_n (lv' := [(2, .int 0), (0, .ref h0), (1, .int p1)]) hx hb dX1_howManyAt_5 rfl hl (by decide) rfl (fun ls hl => ?_)
  refine lv_iconst (v := 0) hx hb dX1_howManyAt_6 (by decide) ?_
  refine lv_istore_n (lv' := [(3, .int 0), (2, .int 0), (0, .ref h0), (1, .int p1)]) hx hb dX1_howManyAt_7 rfl hl (by decide) rfl (fun ls hl => ?_)
  refine lv_iload_n hx hb dX1_howManyAt_8 rfl (lv_at hl 0 rfl) ?_
  refine lv_aload_n hx hb dX1_howManyAt_9 rfl (lv_at hl 2 rfl) ?_
  refine va_get (D := D) (ci := 1) (v := .ref h1) (C := RX1) (T := TX1) (N := 9) hx hb hts iw_X1_howManyAt_X1 hown hK hP 0 rfl rfl 0 (by decide) (hts (.fieldLink RX1 21 "TopTurned$Chart" "space" "LTopTurned$Space;") (by decide +kernel)) (fun _ h9 => h9) rfl dX1_howManyAt_10 ?_
  refine va_get (D := D) (ci := 5) (v := .int 1) (C := RX5) (T := TX5) (N := 11) hx hb hts iw_X1_howManyAt_X5 hown hK hP 1 rfl rfl 3 (by decide) (hts (.fieldLink RX1 54 "TopTurned$Space" "states" "I") (by decide +kernel)) (fun _ h9 => h9) rfl dX1_howManyAt_13 ?_
  refine lv_icmp_ge (tgt := 38) hx hb dX1_howManyAt_16 (by decide) (fun c => absurd c (by decide)) (fun _ => ?_)
  refine lv_aload_n hx hb dX1_howManyAt_19 rfl (lv_at hl 2 rfl) ?_
  refine va_get (D := D) (ci := 1) (v := .ref h2) (C := RX1) (T := TX1) (N := 9) hx hb hts iw_X1_howManyAt_X1 hown hK hP 0 rfl rfl 4 (by decide) (hts (.fieldLink RX1 9 "TopTurned$Chart" "distance" "[I") (by decide +kernel)) (fun _ h9 => h9) rfl dX1_howManyAt_20 ?_
  refine lv_iload_n hx hb dX1_howManyAt_23 rfl (lv_at hl 0 rfl) ?_
  refine va_iald (i := 0) hx hb hK hP 2 1 rfl rfl (vp_in_iff.mpr (by decide)) dX1_howManyAt_24 ?_
  refine kt_eq (y := 0) (by decide +kernel) ?_
  refine lv_iload_n hx hb dX1_howManyAt_25 rfl (lv_at hl 3 rfl) ?_
  refine lv_icmp_ne (tgt := 32) hx hb dX1_howManyAt_26 (by decide) (fun c1 => ?_) (fun c1 => ?_)
  · refine lv_iinc (v := 1) (lv' := [(3, .int 1), (2, .int 0), (0, .ref h0), (1, .int p1)]) hx hb dX1_howManyAt_32 hl (k := 0) rfl (by decide) (by decide) rfl (fun ls hl => ?_)
    refine lv_goto (tgt := 8) hx hb dX1_howManyAt_35 (by decide) ?_
    refine lv_iload_n hx hb dX1_howManyAt_8 rfl (lv_at hl 0 rfl) ?_
    refine lv_aload_n hx hb dX1_howManyAt_9 rfl (lv_at hl 2 rfl) ?_
    refine va_get (D := D) (ci := 1) (v := .ref h1) (C := RX1) (T := TX1) (N := 9) hx hb hts iw_X1_howManyAt_X1 hown hK hP 0 rfl rfl 0 (by decide) (hts (.fieldLink RX1 21 "TopTurned$Chart" "space" "LTopTurned$Space;") (by decide +kernel)) (fun _ h9 => h9) rfl dX1_howManyAt_10 ?_
    refine va_get (D := D) (ci := 5) (v := .int 1) (C := RX5) (T := TX5) (N := 11) hx hb hts iw_X1_howManyAt_X5 hown hK hP 1 rfl rfl 3 (by decide) (hts (.fieldLink RX1 54 "TopTurned$Space" "states" "I") (by decide +kernel)) (fun _ h9 => h9) rfl dX1_howManyAt_13 ?_
    refine lv_icmp_ge (tgt := 38) hx hb dX1_howManyAt_16 (by decide) (fun _ => ?_) (fun c => absurd (by decide) c)
    refine lv_iload_n hx hb dX1_howManyAt_38 rfl (lv_at hl 1 rfl) ?_
    refine W.widen (k := 0) (n := 0) (Nat.le_of_ble_eq_true rfl) (Nat.le_of_ble_eq_true rfl) ?_
    have hP9 := hP.sub (ws' := [(h0, .inr (1, [.ref h1, .ref h3, .ref h6, .ref h7, .ref h2, .ref h5, .ref h8, .int 1, .int 0])), (h1, .inr (5, [.int 0, .int 1, .int 1, .int 1, .int 0, .ref h9, .ref h10, .ref h11, .ref h12, .ref h13, .ref h14])), (h2, .inl (cI, 3840, .inl (upd (upd (fun _ => 0) (Int32.toNatClampNeg 0) (-1)) (Int32.toNatClampNeg 0) 0))), (h3, .inr (3, [.ref h15, .ref h1, .ref h16, .ref h4, .ref h17, .int 0])), (h4, .inl (cZ, 120, .inl (upd (fun _ => 0) (Int32.toNatClampNeg 0) (vp_nar .boolean 1)))), (h5, .inl (cI, 3840, .inl (upd (fun _ => 0) (Int32.toNatClampNeg 0) 1))), (h6, .inl (cI, 3840, .inl (fun _ => 0)))]) [0, 1, 2, 3, 4, 5, 6] rfl
    have hD9 := hD.sub (ws' := [(h0, .inr (1, [.ref h1, .ref h3, .ref h6, .ref h7, .ref h2, .ref h5, .ref h8, .int 1, .int 0])), (h1, .inr (5, [.int 0, .int 1, .int 1, .int 1, .int 0, .ref h9, .ref h10, .ref h11, .ref h12, .ref h13, .ref h14])), (h2, .inl (cI, 3840, .inl (upd (upd (fun _ => 0) (Int32.toNatClampNeg 0) (-1)) (Int32.toNatClampNeg 0) 0))), (h3, .inr (3, [.ref h15, .ref h1, .ref h16, .ref h4, .ref h17, .int 0])), (h4, .inl (cZ, 120, .inl (upd (fun _ => 0) (Int32.toNatClampNeg 0) (vp_nar .boolean 1)))), (h5, .inl (cI, 3840, .inl (upd (fun _ => 0) (Int32.toNatClampNeg 0) 1))), (h6, .inl (cI, 3840, .inl (fun _ => 0)))]) [0, 1, 2, 3, 4, 5, 6] (by decide) rfl
    exact W.iret (v := 0) hx hb hr (fun t ht hW => ⟨⟨0, (), rfl, (by rw [if_neg c1]), ⟨by rw [ht]; exact hP9, hD9⟩⟩, hS.F ht⟩) hS.2.2 dX1_howManyAt_39
  · refine lv_iinc (v := 1) (lv' := [(2, .int 1), (3, .int 0), (0, .ref h0), (1, .int p1)]) hx hb dX1_howManyAt_29 hl (k := 1) rfl (by decide) (by decide) rfl (fun ls hl => ?_)
    refine lv_iinc (v := 1) (lv' := [(3, .int 1), (2, .int 1), (0, .ref h0), (1, .int p1)]) hx hb dX1_howManyAt_32 hl (k := 1) rfl (by decide) (by decide) rfl (fun ls hl => ?_)
    refine lv_goto (tgt := 8) hx hb dX1_howManyAt_35 (by decide) ?_
    refine lv_iload_n hx hb dX1_howManyAt_8 rfl (lv_at hl 0 rfl) ?_
    refine lv_aload_n hx hb dX1_howManyAt_9 rfl (lv_at hl 2 rfl) ?_
    refine va_get (D := D) (ci := 1) (v := .ref h1) (C := RX1) (T := TX1) (N := 9) hx hb hts iw_X1_howManyAt_X1 hown hK hP 0 rfl rfl 0 (by decide) (hts (.fieldLink RX1 21 "TopTurned$Chart" "space" "LTopTurned$Space;") (by decide +kernel)) (fun _ h9 => h9) rfl dX1_howManyAt_10 ?_
    refine va_get (D := D) (ci := 5) (v := .int 1) (C := RX5) (T := TX5) (N := 11) hx hb hts iw_X1_howManyAt_X5 hown hK hP 1 rfl rfl 3 (by decide) (hts (.fieldLink RX1 54 "TopTurned$Space" "states" "I") (by decide +kernel)) (fun _ h9 => h9) rfl dX1_howManyAt_13 ?_
    refine lv_icmp_ge (tgt := 38) hx hb dX1_howManyAt_16 (by decide) (fun _ => ?_) (fun c => absurd (by decide) c)
    refine lv_iload_n hx hb dX1_howManyAt_38 rfl (lv_at hl 1 rfl) ?_
    refine W.widen (k := 0) (n := 0) (Nat.le_of_ble_eq_true rfl) (Nat.le_of_ble_eq_true rfl) ?_
    have hP9 := hP.sub (ws' := [(h0, .inr (1, [.ref h1, .ref h3, .ref h6, .ref h7, .ref h2, .ref h5, .ref h8, .int 1, .int 0])), (h1, .inr (5, [.int 0, .int 1, .int 1, .int 1, .int 0, .ref h9, .ref h10, .ref h11, .ref h12, .ref h13, .ref h14])), (h2, .inl (cI, 3840, .inl (upd (upd (fun _ => 0) (Int32.toNatClampNeg 0) (-1)) (Int32.toNatClampNeg 0) 0))), (h3, .inr (3, [.ref h15, .ref h1, .ref h16, .ref h4, .ref h17, .int 0])), (h4, .inl (cZ, 120, .inl (upd (fun _ => 0) (Int32.toNatClampNeg 0) (vp_nar .boolean 1)))), (h5, .inl (cI, 3840, .inl (upd (fun _ => 0) (Int32.toNatClampNeg 0) 1))), (h6, .inl (cI, 3840, .inl (fun _ => 0)))]) [0, 1, 2, 3, 4, 5, 6] rfl
    have hD9 := hD.sub (ws' := [(h0, .inr (1, [.ref h1, .ref h3, .ref h6, .ref h7, .ref h2, .ref h5, .ref h8, .int 1, .int 0])), (h1, .inr (5, [.int 0, .int 1, .int 1, .int 1, .int 0, .ref h9, .ref h10, .ref h11, .ref h12, .ref h13, .ref h14])), (h2, .inl (cI, 3840, .inl (upd (upd (fun _ => 0) (Int32.toNatClampNeg 0) (-1)) (Int32.toNatClampNeg 0) 0))), (h3, .inr (3, [.ref h15, .ref h1, .ref h16, .ref h4, .ref h17, .int 0])), (h4, .inl (cZ, 120, .inl (upd (fun _ => 0) (Int32.toNatClampNeg 0) (vp_nar .boolean 1)))), (h5, .inl (cI, 3840, .inl (upd (fun _ => 0) (Int32.toNatClampNeg 0) 1))), (h6, .inl (cI, 3840, .inl (fun _ => 0)))]) [0, 1, 2, 3, 4, 5, 6] (by decide) rfl
    exact W.iret (v := 1) hx hb hr (fun t ht hW => ⟨⟨1, (), rfl, (by rw [if_pos c1]), ⟨by rw [ht]; exact hP9, hD9⟩⟩, hS.F ht⟩) hS.2.2 dX1_howManyAt_39
set_option maxHeartbeats 4000000 in
set_option maxRecDepth 100000 in
theorem k_X9_far (l : Launch) (D : va_G) (cC cI cZ : ClassId) (h0 h1 h2 h3 h4 h5 h6 h7 h8 h9 h10 h11 h12 h13 h14 h15 h16 h17 h18 h19 h20 h21 h22 h23 h24 h25 : Nat) (sz : Nat) (p1 : Int32) : Met l yX9_far wsX9_far ({ frames := 10, cells := 0, slots := 0, locals := 500 }) (va_Pc [.ref h0, .int p1] (kPre D cC cI cZ [(h0, .inr (9, [.ref h9, .ref h10, .ref h11, .int 0, .ref h12, .ref h2, .ref h4, .ref h1, .ref h13, .ref h14, .ref h15, .ref h8])), (h1, .inr (1, [.ref h2, .ref h4, .ref h7, .ref h16, .ref h3, .ref h6, .ref h17, .int 0, .int 0])), (h2, .inr (5, [.int 0, .int 1, .int 1, .int 1, .int 0, .ref h18, .ref h19, .ref h20, .ref h21, .ref h22, .ref h23])), (h3, .inl (cI, 3840, .inl (fun _ => 0))), (h4, .inr (3, [.ref h9, .ref h2, .ref h24, .ref h5, .ref h25, .int 0])), (h5, .inl (cZ, 120, .inl (upd (fun _ => 0) (Int32.toNatClampNeg 0) (vp_nar .boolean 1)))), (h6, .inl (cI, 3840, .inl (fun _ => 0))), (h7, .inl (cI, 3840, .inl (fun _ => 0))), (h8, .inl (cI, 7, .inl (fun _ => 0)))] sz)) (va_Qi (fun (r : Int32) (_ : Unit) => r = (if (-1) ≤ p1 then (if p1 ≤ 20 then (if 0 = p1 then 1 else 0) else (-6)) else (-4))) (fun _ _ => True) (va_A [(h0, .inr (9, [.ref h9, .ref h10, .ref h11, .int 0, .ref h12, .ref h2, .ref h4, .ref h1, .ref h13, .ref h14, .ref h15, .ref h8])), (h1, .inr (1, [.ref h2, .ref h4, .ref h7, .ref h16, .ref h3, .ref h6, .ref h17, .int 0, .int 0])), (h2, .inr (5, [.int 0, .int 1, .int 1, .int 1, .int 0, .ref h18, .ref h19, .ref h20, .ref h21, .ref h22, .ref h23])), (h3, .inl (cI, 3840, .inl (fun _ => 0))), (h4, .inr (3, [.ref h9, .ref h2, .ref h24, .ref h5, .ref h25, .int 0])), (h5, .inl (cZ, 120, .inl (upd (fun _ => 0) (Int32.toNatClampNeg 0) (vp_nar .boolean 1)))), (h6, .inl (cI, 3840, .inl (fun _ => 0))), (h7, .inl (cI, 3840, .inl (fun _ => 0))), (h8, .inl (cI, 7, .inl (fun _ => 0)))] sz)) 0 0 (va_A [(h0, .inr (9, [.ref h9, .ref h10, .ref h11, .int 0, .ref h12, .ref h2, .ref h4, .ref h1, .ref h13, .ref h14, .ref h15, .ref h8])), (h1, .inr (1, [.ref h2, .ref h4, .ref h7, .ref h16, .ref h3, .ref h6, .ref h17, .int 0, .int 0])), (h2, .inr (5, [.int 0, .int 1, .int 1, .int 1, .int 0, .ref h18, .ref h19, .ref h20, .ref h21, .ref h22, .ref h23])), (h3, .inl (cI, 3840, .inl (fun _ => 0))), (h4, .inr (3, [.ref h9, .ref h2, .ref h24, .ref h5, .ref h25, .int 0])), (h5, .inl (cZ, 120, .inl (upd (fun _ => 0) (Int32.toNatClampNeg 0) (vp_nar .boolean 1)))), (h6, .inl (cI, 3840, .inl (fun _ => 0))), (h7, .inl (cI, 3840, .inl (fun _ => 0))), (h8, .inl (cI, 7, .inl (fun _ => 0)))] sz) := by
  refine Met.ofW (cc := cX9_far) (maxL := 2) (ret := (some .int)) (by decide) rfl ?_
  intro p e s m args below meth c s₁ B hml hv
  obtain ⟨rfl, hsz, hP, hK, hD0⟩ := hv
  have hx := B.exec
  have hb := B.bytes
  have hr := B.returns
  have hts := atoms_spec (ws := wsX9_far) B.pre
  have hown : s.vm.findClass RX9 = some m.cls := findClass_of_methodNamed B.named
  have hlocks := B.notSynchronized
  subst hsz
  have hD := hD0.self (sz := s.heap.size)
  generalize hAe : va_A [(h0, .inr (9, [.ref h9, .ref h10, .ref h11, .int 0, .ref h12, .ref h2, .ref h4, .ref h1, .ref h13, .ref h14, .ref h15, .ref h8])), (h1, .inr (1, [.ref h2, .ref h4, .ref h7, .ref h16, .ref h3, .ref h6, .ref h17, .int 0, .int 0])), (h2, .inr (5, [.int 0, .int 1, .int 1, .int 1, .int 0, .ref h18, .ref h19, .ref h20, .ref h21, .ref h22, .ref h23])), (h3, .inl (cI, 3840, .inl (fun _ => 0))), (h4, .inr (3, [.ref h9, .ref h2, .ref h24, .ref h5, .ref h25, .int 0])), (h5, .inl (cZ, 120, .inl (upd (fun _ => 0) (Int32.toNatClampNeg 0) (vp_nar .boolean 1)))), (h6, .inl (cI, 3840, .inl (fun _ => 0))), (h7, .inl (cI, 3840, .inl (fun _ => 0))), (h8, .inl (cI, 7, .inl (fun _ => 0)))] s.heap.size = A at hD ⊢
  have hA : ∀ q : Nat, s.heap.size ≤ q → A q := fun q h => by rw [← hAe]; exact Or.inr h
  have hS : va_S A s.heap s.heap [] := va_S.rf
  have hl := lv_entry ([.ref h0, .int p1]) (n := 2) (Nat.le_of_ble_eq_true rfl)
  rw [lg_entry_eq]
  generalize (lg_sl ([.ref h0, .int p1]) ++ List.replicate (2 - (lg_sl ([.ref h0, .int p1])).length) Slot.unset).toArray = ls at hl ⊢
  have hl : lv_has ls 2 [(0, .ref h0), (1, .int p1)] := hl
  refine lv_iload_n hx hb dX9_far_0 rfl (lv_at hl 1 rfl) ?_
  refine lv_iconst (v := (-1)) hx hb dX9_far_1 (by decide) ?_
  refine lv_icmp_ge (tgt := 12) hx hb dX9_far_2 (by decide) (fun c1 => ?_) (fun c1 => ?_)
  · refine lv_iload_n hx hb dX9_far_12 rfl (lv_at hl 1 rfl) ?_
    refine lv_bipush (v := 20) hx hb dX9_far_13 (by decide) ?_
    refine lv_icmp_le (tgt := 25) hx hb dX9_far_15 (by decide) (fun c2 => ?_) (fun c2 => ?_)
    · refine lv_aload_n hx hb dX9_far_25 rfl (lv_at hl 0 rfl) ?_
      refine va_get (D := D) (ci := 9) (v := .ref h1) (C := RX9) (T := TX9) (N := 12) hx hb hts iw_X9_far_X9 hown hK hP 0 rfl rfl 7 (by decide) (hts (.fieldLink RX9 59 "TopTurned" "chart" "LTopTurned$Chart;") (by decide +kernel)) (fun _ h9 => h9) rfl dX9_far_26 ?_
      refine lv_iload_n hx hb dX9_far_29 rfl (lv_at hl 1 rfl) ?_
      have hPc := hP.sub (ws' := [(h1, .inr (1, [.ref h2, .ref h4, .ref h7, .ref h16, .ref h3, .ref h6, .ref h17, .int 0, .int 0])), (h2, .inr (5, [.int 0, .int 1, .int 1, .int 1, .int 0, .ref h18, .ref h19, .ref h20, .ref h21, .ref h22, .ref h23])), (h3, .inl (cI, 3840, .inl (fun _ => 0))), (h4, .inr (3, [.ref h9, .ref h2, .ref h24, .ref h5, .ref h25, .int 0])), (h5, .inl (cZ, 120, .inl (upd (fun _ => 0) (Int32.toNatClampNeg 0) (vp_nar .boolean 1)))), (h6, .inl (cI, 3840, .inl (fun _ => 0))), (h7, .inl (cI, 3840, .inl (fun _ => 0)))]) [1, 2, 3, 4, 5, 6, 7] rfl
      have hDc := hD.sub (ws' := [(h1, .inr (1, [.ref h2, .ref h4, .ref h7, .ref h16, .ref h3, .ref h6, .ref h17, .int 0, .int 0])), (h2, .inr (5, [.int 0, .int 1, .int 1, .int 1, .int 0, .ref h18, .ref h19, .ref h20, .ref h21, .ref h22, .ref h23])), (h3, .inl (cI, 3840, .inl (fun _ => 0))), (h4, .inr (3, [.ref h9, .ref h2, .ref h24, .ref h5, .ref h25, .int 0])), (h5, .inl (cZ, 120, .inl (upd (fun _ => 0) (Int32.toNatClampNeg 0) (vp_nar .boolean 1)))), (h6, .inl (cI, 3840, .inl (fun _ => 0))), (h7, .inl (cI, 3840, .inl (fun _ => 0)))]) [1, 2, 3, 4, 5, 6, 7] (by decide) rfl
      have hFc := va_free (wc := [(h1, .inr (1, [.ref h2, .ref h4, .ref h7, .ref h16, .ref h3, .ref h6, .ref h17, .int 0, .int 0])), (h2, .inr (5, [.int 0, .int 1, .int 1, .int 1, .int 0, .ref h18, .ref h19, .ref h20, .ref h21, .ref h22, .ref h23])), (h3, .inl (cI, 3840, .inl (fun _ => 0))), (h4, .inr (3, [.ref h9, .ref h2, .ref h24, .ref h5, .ref h25, .int 0])), (h5, .inl (cZ, 120, .inl (upd (fun _ => 0) (Int32.toNatClampNeg 0) (vp_nar .boolean 1)))), (h6, .inl (cI, 3840, .inl (fun _ => 0))), (h7, .inl (cI, 3840, .inl (fun _ => 0)))]) hD hS hA [1, 2, 3, 4, 5, 6, 7] rfl
      refine va_calli (va_runV (As := [.int p1]) (rest := []) ⟨hx, hb, hml, hown, hts⟩ (k_X1_howManyAt l D cC cI cZ h1 h2 h3 h4 h5 h6 h7 h16 h17 h18 h19 h20 h21 h22 h23 h9 h24 h25 s.heap.size p1) (cwV 1 hts gX9_far_X1_howManyAt rfl rfl rfl (by decide +kernel) ⟨(Nat.le_of_ble_eq_true rfl), (Nat.le_of_ble_eq_true rfl)⟩) (kPreV hK hPc hDc (va_recv hK hPc (ci := 1) (q0 := 0) rfl rfl)) rfl rfl hl.1 rfl (lv_room (Nat.le_of_ble_eq_true rfl)) dX9_far_30 ⟨(Nat.le_of_ble_eq_true rfl), (Nat.le_of_ble_eq_true rfl)⟩) hS (fun q _ h => hFc q h) hFc (fun r3 u t H1 locs ht hvm hw hB hz1 hk1 hS => ?_)
      obtain ⟨hP1, hD1⟩ := hB
      rw [ht] at hP1
      obtain ⟨hP, hD⟩ := va_join (wr := [(h0, .inr (9, [.ref h9, .ref h10, .ref h11, .int 0, .ref h12, .ref h2, .ref h4, .ref h1, .ref h13, .ref h14, .ref h15, .ref h8])), (h8, .inl (cI, 7, .inl (fun _ => 0)))]) (w1 := [(h1, .inr (1, [.ref h2, .ref h4, .ref h7, .ref h16, .ref h3, .ref h6, .ref h17, .int 1, .int 0])), (h2, .inr (5, [.int 0, .int 1, .int 1, .int 1, .int 0, .ref h18, .ref h19, .ref h20, .ref h21, .ref h22, .ref h23])), (h3, .inl (cI, 3840, .inl (upd (upd (fun _ => 0) (Int32.toNatClampNeg 0) (-1)) (Int32.toNatClampNeg 0) 0))), (h4, .inr (3, [.ref h9, .ref h2, .ref h24, .ref h5, .ref h25, .int 0])), (h5, .inl (cZ, 120, .inl (upd (fun _ => 0) (Int32.toNatClampNeg 0) (vp_nar .boolean 1)))), (h6, .inl (cI, 3840, .inl (upd (fun _ => 0) (Int32.toNatClampNeg 0) 1))), (h7, .inl (cI, 3840, .inl (fun _ => 0)))]) hP hD [1, 2, 3, 4, 5, 6, 7] [0, 8] rfl rfl (by decide) (by decide) hk1 hFc hP1 hD1
      generalize H1 = H at hP hS ⊢
      have hP : va_P D vwCl [(h0, .inr (9, [.ref h9, .ref h10, .ref h11, .int 0, .ref h12, .ref h2, .ref h4, .ref h1, .ref h13, .ref h14, .ref h15, .ref h8])), (h8, .inl (cI, 7, .inl (fun _ => 0))), (h1, .inr (1, [.ref h2, .ref h4, .ref h7, .ref h16, .ref h3, .ref h6, .ref h17, .int 1, .int 0])), (h2, .inr (5, [.int 0, .int 1, .int 1, .int 1, .int 0, .ref h18, .ref h19, .ref h20, .ref h21, .ref h22, .ref h23])), (h3, .inl (cI, 3840, .inl (upd (upd (fun _ => 0) (Int32.toNatClampNeg 0) (-1)) (Int32.toNatClampNeg 0) 0))), (h4, .inr (3, [.ref h9, .ref h2, .ref h24, .ref h5, .ref h25, .int 0])), (h5, .inl (cZ, 120, .inl (upd (fun _ => 0) (Int32.toNatClampNeg 0) (vp_nar .boolean 1)))), (h6, .inl (cI, 3840, .inl (upd (fun _ => 0) (Int32.toNatClampNeg 0) 1))), (h7, .inl (cI, 3840, .inl (fun _ => 0)))] H := hP
      have hD : va_D A [(h0, .inr (9, [.ref h9, .ref h10, .ref h11, .int 0, .ref h12, .ref h2, .ref h4, .ref h1, .ref h13, .ref h14, .ref h15, .ref h8])), (h8, .inl (cI, 7, .inl (fun _ => 0))), (h1, .inr (1, [.ref h2, .ref h4, .ref h7, .ref h16, .ref h3, .ref h6, .ref h17, .int 1, .int 0])), (h2, .inr (5, [.int 0, .int 1, .int 1, .int 1, .int 0, .ref h18, .ref h19, .ref h20, .ref h21, .ref h22, .ref h23])), (h3, .inl (cI, 3840, .inl (upd (upd (fun _ => 0) (Int32.toNatClampNeg 0) (-1)) (Int32.toNatClampNeg 0) 0))), (h4, .inr (3, [.ref h9, .ref h2, .ref h24, .ref h5, .ref h25, .int 0])), (h5, .inl (cZ, 120, .inl (upd (fun _ => 0) (Int32.toNatClampNeg 0) (vp_nar .boolean 1)))), (h6, .inl (cI, 3840, .inl (upd (fun _ => 0) (Int32.toNatClampNeg 0) 1))), (h7, .inl (cI, 3840, .inl (fun _ => 0)))] := hD
      have hw : r3 = (if 0 = p1 then 1 else 0) := hw
      subst hw
      refine W.widen (k := 0) (n := 0) (Nat.le_of_ble_eq_true rfl) (Nat.le_of_ble_eq_true rfl) ?_
      exact W.iret (v := (if 0 = p1 then 1 else 0)) hx hb hr (fun t ht hW => ⟨⟨(if 0 = p1 then 1 else 0), (), rfl, (by rw [if_pos c1, if_pos c2]), trivial⟩, hS.F ht⟩) hS.2.2 dX9_far_33
    · refine lv_aload_n hx hb dX9_far_18 rfl (lv_at hl 0 rfl) ?_
      refine lv_bipush (v := (-6)) hx hb dX9_far_19 (by decide) ?_
      have hPc := hP.sub (ws' := [(h0, .inr (9, [.ref h9, .ref h10, .ref h11, .int 0, .ref h12, .ref h2, .ref h4, .ref h1, .ref h13, .ref h14, .ref h15, .ref h8])), (h8, .inl (cI, 7, .inl (fun _ => 0)))]) [0, 8] rfl
      have hDc := hD.sub (ws' := [(h0, .inr (9, [.ref h9, .ref h10, .ref h11, .int 0, .ref h12, .ref h2, .ref h4, .ref h1, .ref h13, .ref h14, .ref h15, .ref h8])), (h8, .inl (cI, 7, .inl (fun _ => 0)))]) [0, 8] (by decide) rfl
      have hFc := va_free (wc := [(h0, .inr (9, [.ref h9, .ref h10, .ref h11, .int 0, .ref h12, .ref h2, .ref h4, .ref h1, .ref h13, .ref h14, .ref h15, .ref h8])), (h8, .inl (cI, 7, .inl (fun _ => 0)))]) hD hS hA [0, 8] rfl
      refine va_calli (va_runV (As := [.int (-6)]) (rest := []) ⟨hx, hb, hml, hown, hts⟩ (k_X9_refuse l D cC cI cZ h0 h8 h9 h10 h11 h12 h2 h4 h1 h13 h14 h15 s.heap.size ) (cwV 1 hts gX9_far_X9_refuse rfl rfl rfl (by decide +kernel) ⟨(Nat.le_of_ble_eq_true rfl), (Nat.le_of_ble_eq_true rfl)⟩) (kPreV hK hPc hDc (va_recv hK hPc (ci := 9) (q0 := 0) rfl rfl)) rfl rfl hl.1 rfl (lv_room (Nat.le_of_ble_eq_true rfl)) dX9_far_21 ⟨(Nat.le_of_ble_eq_true rfl), (Nat.le_of_ble_eq_true rfl)⟩) hS (fun q _ h => hFc q h) hFc (fun r4 u t H1 locs ht hvm hw hB hz1 hk1 hS => ?_)
      obtain ⟨hP1, hD1⟩ := hB
      rw [ht] at hP1
      obtain ⟨hP, hD⟩ := va_join (wr := [(h1, .inr (1, [.ref h2, .ref h4, .ref h7, .ref h16, .ref h3, .ref h6, .ref h17, .int 0, .int 0])), (h2, .inr (5, [.int 0, .int 1, .int 1, .int 1, .int 0, .ref h18, .ref h19, .ref h20, .ref h21, .ref h22, .ref h23])), (h3, .inl (cI, 3840, .inl (fun _ => 0))), (h4, .inr (3, [.ref h9, .ref h2, .ref h24, .ref h5, .ref h25, .int 0])), (h5, .inl (cZ, 120, .inl (upd (fun _ => 0) (Int32.toNatClampNeg 0) (vp_nar .boolean 1)))), (h6, .inl (cI, 3840, .inl (fun _ => 0))), (h7, .inl (cI, 3840, .inl (fun _ => 0)))]) (w1 := [(h0, .inr (9, [.ref h9, .ref h10, .ref h11, .int 0, .ref h12, .ref h2, .ref h4, .ref h1, .ref h13, .ref h14, .ref h15, .ref h8])), (h8, .inl (cI, 7, .inl (upd (fun _ => 0) (Int32.toNatClampNeg 6) 1)))]) hP hD [0, 8] [1, 2, 3, 4, 5, 6, 7] rfl rfl (by decide) (by decide) hk1 hFc hP1 hD1
      generalize H1 = H at hP hS ⊢
      have hP : va_P D vwCl [(h1, .inr (1, [.ref h2, .ref h4, .ref h7, .ref h16, .ref h3, .ref h6, .ref h17, .int 0, .int 0])), (h2, .inr (5, [.int 0, .int 1, .int 1, .int 1, .int 0, .ref h18, .ref h19, .ref h20, .ref h21, .ref h22, .ref h23])), (h3, .inl (cI, 3840, .inl (fun _ => 0))), (h4, .inr (3, [.ref h9, .ref h2, .ref h24, .ref h5, .ref h25, .int 0])), (h5, .inl (cZ, 120, .inl (upd (fun _ => 0) (Int32.toNatClampNeg 0) (vp_nar .boolean 1)))), (h6, .inl (cI, 3840, .inl (fun _ => 0))), (h7, .inl (cI, 3840, .inl (fun _ => 0))), (h0, .inr (9, [.ref h9, .ref h10, .ref h11, .int 0, .ref h12, .ref h2, .ref h4, .ref h1, .ref h13, .ref h14, .ref h15, .ref h8])), (h8, .inl (cI, 7, .inl (upd (fun _ => 0) (Int32.toNatClampNeg 6) 1)))] H := hP
      have hD : va_D A [(h1, .inr (1, [.ref h2, .ref h4, .ref h7, .ref h16, .ref h3, .ref h6, .ref h17, .int 0, .int 0])), (h2, .inr (5, [.int 0, .int 1, .int 1, .int 1, .int 0, .ref h18, .ref h19, .ref h20, .ref h21, .ref h22, .ref h23])), (h3, .inl (cI, 3840, .inl (fun _ => 0))), (h4, .inr (3, [.ref h9, .ref h2, .ref h24, .ref h5, .ref h25, .int 0])), (h5, .inl (cZ, 120, .inl (upd (fun _ => 0) (Int32.toNatClampNeg 0) (vp_nar .boolean 1)))), (h6, .inl (cI, 3840, .inl (fun _ => 0))), (h7, .inl (cI, 3840, .inl (fun _ => 0))), (h0, .inr (9, [.ref h9, .ref h10, .ref h11, .int 0, .ref h12, .ref h2, .ref h4, .ref h1, .ref h13, .ref h14, .ref h15, .ref h8])), (h8, .inl (cI, 7, .inl (upd (fun _ => 0) (Int32.toNatClampNeg 6) 1)))] := hD
      have hw : r4 = (-6) := hw
      subst hw
      refine W.widen (k := 0) (n := 0) (Nat.le_of_ble_eq_true rfl) (Nat.le_of_ble_eq_true rfl) ?_
      exact W.iret (v := (-6)) hx hb hr (fun t ht hW => ⟨⟨(-6), (), rfl, (by rw [if_pos c1, if_neg c2]), trivial⟩, hS.F ht⟩) hS.2.2 dX9_far_24
  · refine lv_aload_n hx hb dX9_far_5 rfl (lv_at hl 0 rfl) ?_
    refine lv_bipush (v := (-4)) hx hb dX9_far_6 (by decide) ?_
    have hPc := hP.sub (ws' := [(h0, .inr (9, [.ref h9, .ref h10, .ref h11, .int 0, .ref h12, .ref h2, .ref h4, .ref h1, .ref h13, .ref h14, .ref h15, .ref h8])), (h8, .inl (cI, 7, .inl (fun _ => 0)))]) [0, 8] rfl
    have hDc := hD.sub (ws' := [(h0, .inr (9, [.ref h9, .ref h10, .ref h11, .int 0, .ref h12, .ref h2, .ref h4, .ref h1, .ref h13, .ref h14, .ref h15, .ref h8])), (h8, .inl (cI, 7, .inl (fun _ => 0)))]) [0, 8] (by decide) rfl
    have hFc := va_free (wc := [(h0, .inr (9, [.ref h9, .ref h10, .ref h11, .int 0, .ref h12, .ref h2, .ref h4, .ref h1, .ref h13, .ref h14, .ref h15, .ref h8])), (h8, .inl (cI, 7, .inl (fun _ => 0)))]) hD hS hA [0, 8] rfl
    refine va_calli (va_runV (As := [.int (-4)]) (rest := []) ⟨hx, hb, hml, hown, hts⟩ (k_X9_refuse_1 l D cC cI cZ h0 h8 h9 h10 h11 h12 h2 h4 h1 h13 h14 h15 s.heap.size ) (cwV 1 hts gX9_far_X9_refuse rfl rfl rfl (by decide +kernel) ⟨(Nat.le_of_ble_eq_true rfl), (Nat.le_of_ble_eq_true rfl)⟩) (kPreV hK hPc hDc (va_recv hK hPc (ci := 9) (q0 := 0) rfl rfl)) rfl rfl hl.1 rfl (lv_room (Nat.le_of_ble_eq_true rfl)) dX9_far_8 ⟨(Nat.le_of_ble_eq_true rfl), (Nat.le_of_ble_eq_true rfl)⟩) hS (fun q _ h => hFc q h) hFc (fun r5 u t H1 locs ht hvm hw hB hz1 hk1 hS => ?_)
    obtain ⟨hP1, hD1⟩ := hB
    rw [ht] at hP1
    obtain ⟨hP, hD⟩ := va_join (wr := [(h1, .inr (1, [.ref h2, .ref h4, .ref h7, .ref h16, .ref h3, .ref h6, .ref h17, .int 0, .int 0])), (h2, .inr (5, [.int 0, .int 1, .int 1, .int 1, .int 0, .ref h18, .ref h19, .ref h20, .ref h21, .ref h22, .ref h23])), (h3, .inl (cI, 3840, .inl (fun _ => 0))), (h4, .inr (3, [.ref h9, .ref h2, .ref h24, .ref h5, .ref h25, .int 0])), (h5, .inl (cZ, 120, .inl (upd (fun _ => 0) (Int32.toNatClampNeg 0) (vp_nar .boolean 1)))), (h6, .inl (cI, 3840, .inl (fun _ => 0))), (h7, .inl (cI, 3840, .inl (fun _ => 0)))]) (w1 := [(h0, .inr (9, [.ref h9, .ref h10, .ref h11, .int 0, .ref h12, .ref h2, .ref h4, .ref h1, .ref h13, .ref h14, .ref h15, .ref h8])), (h8, .inl (cI, 7, .inl (upd (fun _ => 0) (Int32.toNatClampNeg 4) 1)))]) hP hD [0, 8] [1, 2, 3, 4, 5, 6, 7] rfl rfl (by decide) (by decide) hk1 hFc hP1 hD1
    generalize H1 = H at hP hS ⊢
    have hP : va_P D vwCl [(h1, .inr (1, [.ref h2, .ref h4, .ref h7, .ref h16, .ref h3, .ref h6, .ref h17, .int 0, .int 0])), (h2, .inr (5, [.int 0, .int 1, .int 1, .int 1, .int 0, .ref h18, .ref h19, .ref h20, .ref h21, .ref h22, .ref h23])), (h3, .inl (cI, 3840, .inl (fun _ => 0))), (h4, .inr (3, [.ref h9, .ref h2, .ref h24, .ref h5, .ref h25, .int 0])), (h5, .inl (cZ, 120, .inl (upd (fun _ => 0) (Int32.toNatClampNeg 0) (vp_nar .boolean 1)))), (h6, .inl (cI, 3840, .inl (fun _ => 0))), (h7, .inl (cI, 3840, .inl (fun _ => 0))), (h0, .inr (9, [.ref h9, .ref h10, .ref h11, .int 0, .ref h12, .ref h2, .ref h4, .ref h1, .ref h13, .ref h14, .ref h15, .ref h8])), (h8, .inl (cI, 7, .inl (upd (fun _ => 0) (Int32.toNatClampNeg 4) 1)))] H := hP
    have hD : va_D A [(h1, .inr (1, [.ref h2, .ref h4, .ref h7, .ref h16, .ref h3, .ref h6, .ref h17, .int 0, .int 0])), (h2, .inr (5, [.int 0, .int 1, .int 1, .int 1, .int 0, .ref h18, .ref h19, .ref h20, .ref h21, .ref h22, .ref h23])), (h3, .inl (cI, 3840, .inl (fun _ => 0))), (h4, .inr (3, [.ref h9, .ref h2, .ref h24, .ref h5, .ref h25, .int 0])), (h5, .inl (cZ, 120, .inl (upd (fun _ => 0) (Int32.toNatClampNeg 0) (vp_nar .boolean 1)))), (h6, .inl (cI, 3840, .inl (fun _ => 0))), (h7, .inl (cI, 3840, .inl (fun _ => 0))), (h0, .inr (9, [.ref h9, .ref h10, .ref h11, .int 0, .ref h12, .ref h2, .ref h4, .ref h1, .ref h13, .ref h14, .ref h15, .ref h8])), (h8, .inl (cI, 7, .inl (upd (fun _ => 0) (Int32.toNatClampNeg 4) 1)))] := hD
    have hw : r5 = (-4) := hw
    subst hw
    refine W.widen (k := 0) (n := 0) (Nat.le_of_ble_eq_true rfl) (Nat.le_of_ble_eq_true rfl) ?_
    exact W.iret (v := (-4)) hx hb hr (fun t ht hW => ⟨⟨(-4), (), rfl, (by rw [if_neg c1]), trivial⟩, hS.F ht⟩) hS.2.2 dX9_far_11
set_option maxHeartbeats 4000000 in
set_option maxRecDepth 100000 in
theorem k_X9_refuse_4 (l : Launch) (D : va_G) (cC cI cZ : ClassId) (h0 h1 h2 h3 h4 h5 h6 h7 h8 h9 h10 h11 : Nat) (sz : Nat) : Met l yX9_refuse wsX9_refuse ({ frames := 2, cells := 0, slots := 0, locals := 100 }) (va_Pc [.ref h0, .int (-3)] (kPre D cC cI cZ [(h0, .inr (9, [.ref h2, .ref h3, .ref h4, .int 0, .ref h5, .ref h6, .ref h7, .ref h8, .ref h9, .ref h10, .ref h11, .ref h1])), (h1, .inl (cI, 7, .inl (fun _ => 0)))] sz)) (va_Qi (fun (r : Int32) (_ : Unit) => r = (-3)) (fun _ t => va_P D vwCl [(h0, .inr (9, [.ref h2, .ref h3, .ref h4, .int 0, .ref h5, .ref h6, .ref h7, .ref h8, .ref h9, .ref h10, .ref h11, .ref h1])), (h1, .inl (cI, 7, .inl (upd (fun _ => 0) (Int32.toNatClampNeg 3) 1)))] t.heap ∧ va_D (va_A [(h0, .inr (9, [.ref h2, .ref h3, .ref h4, .int 0, .ref h5, .ref h6, .ref h7, .ref h8, .ref h9, .ref h10, .ref h11, .ref h1])), (h1, .inl (cI, 7, .inl (fun _ => 0)))] sz) [(h0, .inr (9, [.ref h2, .ref h3, .ref h4, .int 0, .ref h5, .ref h6, .ref h7, .ref h8, .ref h9, .ref h10, .ref h11, .ref h1])), (h1, .inl (cI, 7, .inl (upd (fun _ => 0) (Int32.toNatClampNeg 3) 1)))]) (va_A [(h0, .inr (9, [.ref h2, .ref h3, .ref h4, .int 0, .ref h5, .ref h6, .ref h7, .ref h8, .ref h9, .ref h10, .ref h11, .ref h1])), (h1, .inl (cI, 7, .inl (fun _ => 0)))] sz)) 0 0 (va_A [(h0, .inr (9, [.ref h2, .ref h3, .ref h4, .int 0, .ref h5, .ref h6, .ref h7, .ref h8, .ref h9, .ref h10, .ref h11, .ref h1])), (h1, .inl (cI, 7, .inl (fun _ => 0)))] sz) := by
  refine Met.ofW (cc := cX9_refuse) (maxL := 2) (ret := (some .int)) (by decide) rfl ?_
  intro p e s m args below meth c s₁ B hml hv
  obtain ⟨rfl, hsz, hP, hK, hD0⟩ := hv
  have hx := B.exec
  have hb := B.bytes
  have hr := B.returns
  have hts := atoms_spec (ws := wsX9_refuse) B.pre
  have hown : s.vm.findClass RX9 = some m.cls := findClass_of_methodNamed B.named
  have hlocks := B.notSynchronized
  subst hsz
  have hD := hD0.self (sz := s.heap.size)
  generalize hAe : va_A [(h0, .inr (9, [.ref h2, .ref h3, .ref h4, .int 0, .ref h5, .ref h6, .ref h7, .ref h8, .ref h9, .ref h10, .ref h11, .ref h1])), (h1, .inl (cI, 7, .inl (fun _ => 0)))] s.heap.size = A at hD ⊢
  have hA : ∀ q : Nat, s.heap.size ≤ q → A q := fun q h => by rw [← hAe]; exact Or.inr h
  have hS : va_S A s.heap s.heap [] := va_S.rf
  have hl := lv_entry ([.ref h0, .int (-3)]) (n := 2) (Nat.le_of_ble_eq_true rfl)
  rw [lg_entry_eq]
  generalize (lg_sl ([.ref h0, .int (-3)]) ++ List.replicate (2 - (lg_sl ([.ref h0, .int (-3)])).length) Slot.unset).toArray = ls at hl ⊢
  have hl : lv_has ls 2 [(0, .ref h0), (1, .int (-3))] := hl
  refine lv_aload_n hx hb dX9_refuse_0 rfl (lv_at hl 0 rfl) ?_
  refine va_get (D := D) (ci := 9) (v := .ref h1) (C := RX9) (T := TX9) (N := 12) hx hb hts iw_X9_refuse_X9 hown hK hP 0 rfl rfl 11 (by decide) (hts (.fieldLink RX9 90 "TopTurned" "refusals" "[I") (by decide +kernel)) (fun _ h9 => h9) rfl dX9_refuse_1 ?_
  refine lv_iload_n hx hb dX9_refuse_4 rfl (lv_at hl 1 rfl) ?_
  refine lv_ineg hx hb dX9_refuse_5 ?_
  refine kt_eq (y := 3) (by decide +kernel) ?_
  refine lv_dup2_11 hx hb dX9_refuse_6 rfl rfl ?_
  refine va_iald (i := 3) hx hb hK hP 1 1 rfl rfl (vp_in_iff.mpr (by decide)) dX9_refuse_7 ?_
  refine kt_eq (y := 0) (by decide +kernel) ?_
  refine lv_iconst (v := 1) hx hb dX9_refuse_8 (by decide) ?_
  refine lv_iadd hx hb dX9_refuse_9 ?_
  refine kt_eq (y := 1) (by decide +kernel) ?_
  refine va_iast (i := 3) (x := 1) hx hb hK hP hD hS 1 1 rfl rfl (vp_in_iff.mpr (by decide)) dX9_refuse_10 (fun H locs hP hD hS => ?_)
  have hP : va_P D vwCl [(h0, .inr (9, [.ref h2, .ref h3, .ref h4, .int 0, .ref h5, .ref h6, .ref h7, .ref h8, .ref h9, .ref h10, .ref h11, .ref h1])), (h1, .inl (cI, 7, .inl (upd (fun _ => 0) (Int32.toNatClampNeg 3) 1)))] H := hP
  have hD : va_D A [(h0, .inr (9, [.ref h2, .ref h3, .ref h4, .int 0, .ref h5, .ref h6, .ref h7, .ref h8, .ref h9, .ref h10, .ref h11, .ref h1])), (h1, .inl (cI, 7, .inl (upd (fun _ => 0) (Int32.toNatClampNeg 3) 1)))] := hD
  refine lv_iload_n hx hb dX9_refuse_11 rfl (lv_at hl 1 rfl) ?_
  refine W.widen (k := 0) (n := 0) (Nat.le_of_ble_eq_true rfl) (Nat.le_of_ble_eq_true rfl) ?_
  have hP9 := hP.sub (ws' := [(h0, .inr (9, [.ref h2, .ref h3, .ref h4, .int 0, .ref h5, .ref h6, .ref h7, .ref h8, .ref h9, .ref h10, .ref h11, .ref h1])), (h1, .inl (cI, 7, .inl (upd (fun _ => 0) (Int32.toNatClampNeg 3) 1)))]) [0, 1] rfl
  have hD9 := hD.sub (ws' := [(h0, .inr (9, [.ref h2, .ref h3, .ref h4, .int 0, .ref h5, .ref h6, .ref h7, .ref h8, .ref h9, .ref h10, .ref h11, .ref h1])), (h1, .inl (cI, 7, .inl (upd (fun _ => 0) (Int32.toNatClampNeg 3) 1)))]) [0, 1] (by decide) rfl
  exact W.iret (v := (-3)) hx hb hr (fun t ht hW => ⟨⟨(-3), (), rfl, rfl, ⟨by rw [ht]; exact hP9, hD9⟩⟩, hS.F ht⟩) hS.2.2 dX9_refuse_12
set_option maxHeartbeats 4000000 in
set_option maxRecDepth 100000 in
theorem k_X9_worst (l : Launch) (D : va_G) (cC cI cZ : ClassId) (h0 h1 h2 h3 h4 h5 h6 h7 h8 h9 h10 h11 h12 h13 h14 h15 h16 h17 : Nat) (sz : Nat) (p1 : Int32) : Met l yX9_worst wsX9_worst ({ frames := 4, cells := 0, slots := 0, locals := 200 }) (va_Pc [.ref h0, .int p1] (kPre D cC cI cZ [(h0, .inr (9, [.ref h2, .ref h3, .ref h4, .int 0, .ref h5, .ref h6, .ref h7, .ref h8, .ref h9, .ref h10, .ref h11, .ref h1])), (h1, .inl (cI, 7, .inl (fun _ => 0))), (h2, .inr (6, [.int 0, .ref h12, .ref h13, .int 0, .int 5, .int 9, .int 0, .int 1, .int 0, .int 0, .ref h14, .ref h15, .int 0, .ref h16, .int 0, .ref h17, .int 0]))] sz)) (va_Qi (fun (r : Int32) (_ : Unit) => r = (if p1 < (-1) then (-1) else (if p1 < 0 then (-3) else (-1)))) (fun _ _ => True) (va_A [(h0, .inr (9, [.ref h2, .ref h3, .ref h4, .int 0, .ref h5, .ref h6, .ref h7, .ref h8, .ref h9, .ref h10, .ref h11, .ref h1])), (h1, .inl (cI, 7, .inl (fun _ => 0))), (h2, .inr (6, [.int 0, .ref h12, .ref h13, .int 0, .int 5, .int 9, .int 0, .int 1, .int 0, .int 0, .ref h14, .ref h15, .int 0, .ref h16, .int 0, .ref h17, .int 0]))] sz)) 0 0 (va_A [(h0, .inr (9, [.ref h2, .ref h3, .ref h4, .int 0, .ref h5, .ref h6, .ref h7, .ref h8, .ref h9, .ref h10, .ref h11, .ref h1])), (h1, .inl (cI, 7, .inl (fun _ => 0))), (h2, .inr (6, [.int 0, .ref h12, .ref h13, .int 0, .int 5, .int 9, .int 0, .int 1, .int 0, .int 0, .ref h14, .ref h15, .int 0, .ref h16, .int 0, .ref h17, .int 0]))] sz) := by
  refine Met.ofW (cc := cX9_worst) (maxL := 3) (ret := (some .int)) (by decide) rfl ?_
  intro p e s m args below meth c s₁ B hml hv
  obtain ⟨rfl, hsz, hP, hK, hD0⟩ := hv
  have hx := B.exec
  have hb := B.bytes
  have hr := B.returns
  have hts := atoms_spec (ws := wsX9_worst) B.pre
  have hown : s.vm.findClass RX9 = some m.cls := findClass_of_methodNamed B.named
  have hlocks := B.notSynchronized
  subst hsz
  have hD := hD0.self (sz := s.heap.size)
  generalize hAe : va_A [(h0, .inr (9, [.ref h2, .ref h3, .ref h4, .int 0, .ref h5, .ref h6, .ref h7, .ref h8, .ref h9, .ref h10, .ref h11, .ref h1])), (h1, .inl (cI, 7, .inl (fun _ => 0))), (h2, .inr (6, [.int 0, .ref h12, .ref h13, .int 0, .int 5, .int 9, .int 0, .int 1, .int 0, .int 0, .ref h14, .ref h15, .int 0, .ref h16, .int 0, .ref h17, .int 0]))] s.heap.size = A at hD ⊢
  have hA : ∀ q : Nat, s.heap.size ≤ q → A q := fun q h => by rw [← hAe]; exact Or.inr h
  have hS : va_S A s.heap s.heap [] := va_S.rf
  have hl := lv_entry ([.ref h0, .int p1]) (n := 3) (Nat.le_of_ble_eq_true rfl)
  rw [lg_entry_eq]
  generalize (lg_sl ([.ref h0, .int p1]) ++ List.replicate (3 - (lg_sl ([.ref h0, .int p1])).length) Slot.unset).toArray = ls at hl ⊢
  have hl : lv_has ls 3 [(0, .ref h0), (1, .int p1)] := hl
  refine lv_iload_n hx hb dX9_worst_0 rfl (lv_at hl 1 rfl) ?_
  refine lv_iconst (v := (-1)) hx hb dX9_worst_1 (by decide) ?_
  refine lv_icmp_lt (tgt := 16) hx hb dX9_worst_2 (by decide) (fun c1 => ?_) (fun c1 => ?_)
  · refine lv_aload_n hx hb dX9_worst_16 rfl (lv_at hl 0 rfl) ?_
    refine lv_iconst (v := (-1)) hx hb dX9_worst_17 (by decide) ?_
    have hPc := hP.sub (ws' := [(h0, .inr (9, [.ref h2, .ref h3, .ref h4, .int 0, .ref h5, .ref h6, .ref h7, .ref h8, .ref h9, .ref h10, .ref h11, .ref h1])), (h1, .inl (cI, 7, .inl (fun _ => 0)))]) [0, 1] rfl
    have hDc := hD.sub (ws' := [(h0, .inr (9, [.ref h2, .ref h3, .ref h4, .int 0, .ref h5, .ref h6, .ref h7, .ref h8, .ref h9, .ref h10, .ref h11, .ref h1])), (h1, .inl (cI, 7, .inl (fun _ => 0)))]) [0, 1] (by decide) rfl
    have hFc := va_free (wc := [(h0, .inr (9, [.ref h2, .ref h3, .ref h4, .int 0, .ref h5, .ref h6, .ref h7, .ref h8, .ref h9, .ref h10, .ref h11, .ref h1])), (h1, .inl (cI, 7, .inl (fun _ => 0)))]) hD hS hA [0, 1] rfl
    refine va_calli (va_runV (As := [.int (-1)]) (rest := []) ⟨hx, hb, hml, hown, hts⟩ (k_X9_refuse_2 l D cC cI cZ h0 h1 h2 h3 h4 h5 h6 h7 h8 h9 h10 h11 s.heap.size ) (cwV 1 hts gX9_worst_X9_refuse rfl rfl rfl (by decide +kernel) ⟨(Nat.le_of_ble_eq_true rfl), (Nat.le_of_ble_eq_true rfl)⟩) (kPreV hK hPc hDc (va_recv hK hPc (ci := 9) (q0 := 0) rfl rfl)) rfl rfl hl.1 rfl (lv_room (Nat.le_of_ble_eq_true rfl)) dX9_worst_18 ⟨(Nat.le_of_ble_eq_true rfl), (Nat.le_of_ble_eq_true rfl)⟩) hS (fun q _ h => hFc q h) hFc (fun r2 u t H1 locs ht hvm hw hB hz1 hk1 hS => ?_)
    obtain ⟨hP1, hD1⟩ := hB
    rw [ht] at hP1
    obtain ⟨hP, hD⟩ := va_join (wr := [(h2, .inr (6, [.int 0, .ref h12, .ref h13, .int 0, .int 5, .int 9, .int 0, .int 1, .int 0, .int 0, .ref h14, .ref h15, .int 0, .ref h16, .int 0, .ref h17, .int 0]))]) (w1 := [(h0, .inr (9, [.ref h2, .ref h3, .ref h4, .int 0, .ref h5, .ref h6, .ref h7, .ref h8, .ref h9, .ref h10, .ref h11, .ref h1])), (h1, .inl (cI, 7, .inl (upd (fun _ => 0) (Int32.toNatClampNeg 1) 1)))]) hP hD [0, 1] [2] rfl rfl (by decide) (by decide) hk1 hFc hP1 hD1
    generalize H1 = H at hP hS ⊢
    have hP : va_P D vwCl [(h2, .inr (6, [.int 0, .ref h12, .ref h13, .int 0, .int 5, .int 9, .int 0, .int 1, .int 0, .int 0, .ref h14, .ref h15, .int 0, .ref h16, .int 0, .ref h17, .int 0])), (h0, .inr (9, [.ref h2, .ref h3, .ref h4, .int 0, .ref h5, .ref h6, .ref h7, .ref h8, .ref h9, .ref h10, .ref h11, .ref h1])), (h1, .inl (cI, 7, .inl (upd (fun _ => 0) (Int32.toNatClampNeg 1) 1)))] H := hP
    have hD : va_D A [(h2, .inr (6, [.int 0, .ref h12, .ref h13, .int 0, .int 5, .int 9, .int 0, .int 1, .int 0, .int 0, .ref h14, .ref h15, .int 0, .ref h16, .int 0, .ref h17, .int 0])), (h0, .inr (9, [.ref h2, .ref h3, .ref h4, .int 0, .ref h5, .ref h6, .ref h7, .ref h8, .ref h9, .ref h10, .ref h11, .ref h1])), (h1, .inl (cI, 7, .inl (upd (fun _ => 0) (Int32.toNatClampNeg 1) 1)))] := hD
    have hw : r2 = (-1) := hw
    subst hw
    refine W.widen (k := 0) (n := 0) (Nat.le_of_ble_eq_true rfl) (Nat.le_of_ble_eq_true rfl) ?_
    exact W.iret (v := (-1)) hx hb hr (fun t ht hW => ⟨⟨(-1), (), rfl, (by rw [if_pos c1]), trivial⟩, hS.F ht⟩) hS.2.2 dX9_worst_21
  · refine lv_iload_n hx hb dX9_worst_5 rfl (lv_at hl 1 rfl) ?_
    refine lv_aload_n hx hb dX9_worst_6 rfl (lv_at hl 0 rfl) ?_
    refine va_get (D := D) (ci := 9) (v := .ref h2) (C := RX9) (T := TX9) (N := 12) hx hb hts iw_X9_worst_X9 hown hK hP 0 rfl rfl 0 (by decide) (hts (.fieldLink RX9 10 "TopTurned" "now" "LTopTurned$Told;") (by decide +kernel)) (fun _ h9 => h9) rfl dX9_worst_7 ?_
    refine va_get (D := D) (ci := 6) (v := .int 0) (C := RX6) (T := TX6) (N := 17) hx hb hts iw_X9_worst_X6 hown hK hP 2 rfl rfl 0 (by decide) (hts (.fieldLink RX9 115 "TopTurned$Told" "plates" "I") (by decide +kernel)) (fun _ h9 => h9) rfl dX9_worst_10 ?_
    refine lv_icmp_lt (tgt := 22) hx hb dX9_worst_13 (by decide) (fun c3 => ?_) (fun c3 => ?_)
    · refine lv_aload_n hx hb dX9_worst_22 rfl (lv_at hl 0 rfl) ?_
      refine va_get (D := D) (ci := 9) (v := .ref h2) (C := RX9) (T := TX9) (N := 12) hx hb hts iw_X9_worst_X9 hown hK hP 0 rfl rfl 0 (by decide) (hts (.fieldLink RX9 10 "TopTurned" "now" "LTopTurned$Told;") (by decide +kernel)) (fun _ h9 => h9) rfl dX9_worst_23 ?_
      refine va_get (D := D) (ci := 6) (v := .int 0) (C := RX6) (T := TX6) (N := 17) hx hb hts iw_X9_worst_X6 hown hK hP 2 rfl rfl 0 (by decide) (hts (.fieldLink RX9 115 "TopTurned$Told" "plates" "I") (by decide +kernel)) (fun _ h9 => h9) rfl dX9_worst_26 ?_
      refine lv_if_ne (tgt := 39) hx hb dX9_worst_29 (by decide) (fun c => absurd (by decide) c) (fun _ => ?_)
      refine lv_aload_n hx hb dX9_worst_32 rfl (lv_at hl 0 rfl) ?_
      refine lv_bipush (v := (-3)) hx hb dX9_worst_33 (by decide) ?_
      have hPc := hP.sub (ws' := [(h0, .inr (9, [.ref h2, .ref h3, .ref h4, .int 0, .ref h5, .ref h6, .ref h7, .ref h8, .ref h9, .ref h10, .ref h11, .ref h1])), (h1, .inl (cI, 7, .inl (fun _ => 0)))]) [0, 1] rfl
      have hDc := hD.sub (ws' := [(h0, .inr (9, [.ref h2, .ref h3, .ref h4, .int 0, .ref h5, .ref h6, .ref h7, .ref h8, .ref h9, .ref h10, .ref h11, .ref h1])), (h1, .inl (cI, 7, .inl (fun _ => 0)))]) [0, 1] (by decide) rfl
      have hFc := va_free (wc := [(h0, .inr (9, [.ref h2, .ref h3, .ref h4, .int 0, .ref h5, .ref h6, .ref h7, .ref h8, .ref h9, .ref h10, .ref h11, .ref h1])), (h1, .inl (cI, 7, .inl (fun _ => 0)))]) hD hS hA [0, 1] rfl
      refine va_calli (va_runV (As := [.int (-3)]) (rest := []) ⟨hx, hb, hml, hown, hts⟩ (k_X9_refuse_4 l D cC cI cZ h0 h1 h2 h3 h4 h5 h6 h7 h8 h9 h10 h11 s.heap.size ) (cwV 1 hts gX9_worst_X9_refuse rfl rfl rfl (by decide +kernel) ⟨(Nat.le_of_ble_eq_true rfl), (Nat.le_of_ble_eq_true rfl)⟩) (kPreV hK hPc hDc (va_recv hK hPc (ci := 9) (q0 := 0) rfl rfl)) rfl rfl hl.1 rfl (lv_room (Nat.le_of_ble_eq_true rfl)) dX9_worst_35 ⟨(Nat.le_of_ble_eq_true rfl), (Nat.le_of_ble_eq_true rfl)⟩) hS (fun q _ h => hFc q h) hFc (fun r4 u t H1 locs ht hvm hw hB hz1 hk1 hS => ?_)
      obtain ⟨hP1, hD1⟩ := hB
      rw [ht] at hP1
      obtain ⟨hP, hD⟩ := va_join (wr := [(h2, .inr (6, [.int 0, .ref h12, .ref h13, .int 0, .int 5, .int 9, .int 0, .int 1, .int 0, .int 0, .ref h14, .ref h15, .int 0, .ref h16, .int 0, .ref h17, .int 0]))]) (w1 := [(h0, .inr (9, [.ref h2, .ref h3, .ref h4, .int 0, .ref h5, .ref h6, .ref h7, .ref h8, .ref h9, .ref h10, .ref h11, .ref h1])), (h1, .inl (cI, 7, .inl (upd (fun _ => 0) (Int32.toNatClampNeg 3) 1)))]) hP hD [0, 1] [2] rfl rfl (by decide) (by decide) hk1 hFc hP1 hD1
      generalize H1 = H at hP hS ⊢
      have hP : va_P D vwCl [(h2, .inr (6, [.int 0, .ref h12, .ref h13, .int 0, .int 5, .int 9, .int 0, .int 1, .int 0, .int 0, .ref h14, .ref h15, .int 0, .ref h16, .int 0, .ref h17, .int 0])), (h0, .inr (9, [.ref h2, .ref h3, .ref h4, .int 0, .ref h5, .ref h6, .ref h7, .ref h8, .ref h9, .ref h10, .ref h11, .ref h1])), (h1, .inl (cI, 7, .inl (upd (fun _ => 0) (Int32.toNatClampNeg 3) 1)))] H := hP
      have hD : va_D A [(h2, .inr (6, [.int 0, .ref h12, .ref h13, .int 0, .int 5, .int 9, .int 0, .int 1, .int 0, .int 0, .ref h14, .ref h15, .int 0, .ref h16, .int 0, .ref h17, .int 0])), (h0, .inr (9, [.ref h2, .ref h3, .ref h4, .int 0, .ref h5, .ref h6, .ref h7, .ref h8, .ref h9, .ref h10, .ref h11, .ref h1])), (h1, .inl (cI, 7, .inl (upd (fun _ => 0) (Int32.toNatClampNeg 3) 1)))] := hD
      have hw : r4 = (-3) := hw
      subst hw
      refine W.widen (k := 0) (n := 0) (Nat.le_of_ble_eq_true rfl) (Nat.le_of_ble_eq_true rfl) ?_
      exact W.iret (v := (-3)) hx hb hr (fun t ht hW => ⟨⟨(-3), (), rfl, (by rw [if_neg c1, if_pos c3]), trivial⟩, hS.F ht⟩) hS.2.2 dX9_worst_38
    · refine lv_aload_n hx hb dX9_worst_16 rfl (lv_at hl 0 rfl) ?_
      refine lv_iconst (v := (-1)) hx hb dX9_worst_17 (by decide) ?_
      have hPc := hP.sub (ws' := [(h0, .inr (9, [.ref h2, .ref h3, .ref h4, .int 0, .ref h5, .ref h6, .ref h7, .ref h8, .ref h9, .ref h10, .ref h11, .ref h1])), (h1, .inl (cI, 7, .inl (fun _ => 0)))]) [0, 1] rfl
      have hDc := hD.sub (ws' := [(h0, .inr (9, [.ref h2, .ref h3, .ref h4, .int 0, .ref h5, .ref h6, .ref h7, .ref h8, .ref h9, .ref h10, .ref h11, .ref h1])), (h1, .inl (cI, 7, .inl (fun _ => 0)))]) [0, 1] (by decide) rfl
      have hFc := va_free (wc := [(h0, .inr (9, [.ref h2, .ref h3, .ref h4, .int 0, .ref h5, .ref h6, .ref h7, .ref h8, .ref h9, .ref h10, .ref h11, .ref h1])), (h1, .inl (cI, 7, .inl (fun _ => 0)))]) hD hS hA [0, 1] rfl
      refine va_calli (va_runV (As := [.int (-1)]) (rest := []) ⟨hx, hb, hml, hown, hts⟩ (k_X9_refuse_2 l D cC cI cZ h0 h1 h2 h3 h4 h5 h6 h7 h8 h9 h10 h11 s.heap.size ) (cwV 1 hts gX9_worst_X9_refuse rfl rfl rfl (by decide +kernel) ⟨(Nat.le_of_ble_eq_true rfl), (Nat.le_of_ble_eq_true rfl)⟩) (kPreV hK hPc hDc (va_recv hK hPc (ci := 9) (q0 := 0) rfl rfl)) rfl rfl hl.1 rfl (lv_room (Nat.le_of_ble_eq_true rfl)) dX9_worst_18 ⟨(Nat.le_of_ble_eq_true rfl), (Nat.le_of_ble_eq_true rfl)⟩) hS (fun q _ h => hFc q h) hFc (fun r5 u t H1 locs ht hvm hw hB hz1 hk1 hS => ?_)
      obtain ⟨hP1, hD1⟩ := hB
      rw [ht] at hP1
      obtain ⟨hP, hD⟩ := va_join (wr := [(h2, .inr (6, [.int 0, .ref h12, .ref h13, .int 0, .int 5, .int 9, .int 0, .int 1, .int 0, .int 0, .ref h14, .ref h15, .int 0, .ref h16, .int 0, .ref h17, .int 0]))]) (w1 := [(h0, .inr (9, [.ref h2, .ref h3, .ref h4, .int 0, .ref h5, .ref h6, .ref h7, .ref h8, .ref h9, .ref h10, .ref h11, .ref h1])), (h1, .inl (cI, 7, .inl (upd (fun _ => 0) (Int32.toNatClampNeg 1) 1)))]) hP hD [0, 1] [2] rfl rfl (by decide) (by decide) hk1 hFc hP1 hD1
      generalize H1 = H at hP hS ⊢
      have hP : va_P D vwCl [(h2, .inr (6, [.int 0, .ref h12, .ref h13, .int 0, .int 5, .int 9, .int 0, .int 1, .int 0, .int 0, .ref h14, .ref h15, .int 0, .ref h16, .int 0, .ref h17, .int 0])), (h0, .inr (9, [.ref h2, .ref h3, .ref h4, .int 0, .ref h5, .ref h6, .ref h7, .ref h8, .ref h9, .ref h10, .ref h11, .ref h1])), (h1, .inl (cI, 7, .inl (upd (fun _ => 0) (Int32.toNatClampNeg 1) 1)))] H := hP
      have hD : va_D A [(h2, .inr (6, [.int 0, .ref h12, .ref h13, .int 0, .int 5, .int 9, .int 0, .int 1, .int 0, .int 0, .ref h14, .ref h15, .int 0, .ref h16, .int 0, .ref h17, .int 0])), (h0, .inr (9, [.ref h2, .ref h3, .ref h4, .int 0, .ref h5, .ref h6, .ref h7, .ref h8, .ref h9, .ref h10, .ref h11, .ref h1])), (h1, .inl (cI, 7, .inl (upd (fun _ => 0) (Int32.toNatClampNeg 1) 1)))] := hD
      have hw : r5 = (-1) := hw
      subst hw
      refine W.widen (k := 0) (n := 0) (Nat.le_of_ble_eq_true rfl) (Nat.le_of_ble_eq_true rfl) ?_
      exact W.iret (v := (-1)) hx hb hr (fun t ht hW => ⟨⟨(-1), (), rfl, (by rw [if_neg c1, if_neg c3]), trivial⟩, hS.F ht⟩) hS.2.2 dX9_worst_21
