set_option maxHeartbeats 4000000 in
set_option maxRecDepth 100000 in
theorem k_X9_law (l : Launch) (D : va_G) (cC cI cZ : ClassId) (h0 h1 h2 h3 h4 h5 h6 h7 h8 h9 h10 h11 h12 h13 h14 h15 h16 h17 h18 h19 h20 h21 h22 h23 h24 h25 h26 h27 h28 h29 h30 h31 : Nat) (sz : Nat) (p1 : Int32) : Met l yX9_law wsX9_law ({ frames := 10, cells := 0, slots := 0, locals := 500 }) (va_Pc [.ref h0, .int p1] (kPre D cC cI cZ [(h0, .inr (9, [.ref h2, .ref h7, .ref h8, .int 0, .ref h9, .ref h3, .ref h4, .ref h6, .ref h10, .ref h11, .ref h12, .ref h1])), (h1, .inl (cI, 7, .inl (fun _ => 0))), (h2, .inr (6, [.int 0, .ref h13, .ref h14, .int 0, .int 5, .int 9, .int 0, .int 1, .int 0, .int 0, .ref h15, .ref h16, .int 0, .ref h17, .int 0, .ref h18, .int 0])), (h3, .inr (5, [.int 0, .int 1, .int 1, .int 1, .int 0, .ref h19, .ref h20, .ref h21, .ref h22, .ref h23, .ref h24])), (h4, .inr (3, [.ref h2, .ref h3, .ref h25, .ref h5, .ref h26, .int 0])), (h5, .inl (cZ, 120, .inl (upd (fun _ => 0) (Int32.toNatClampNeg 0) (vp_nar .boolean 1)))), (h6, .inr (1, [.ref h3, .ref h4, .ref h27, .ref h28, .ref h29, .ref h30, .ref h31, .int 0, .int 0]))] sz)) (va_Qi (fun (r : Int32) (_ : Unit) => r = (if p1 < 0 then (-2) else (if p1 < 5 then 0 else (-2)))) (fun _ _ => True) (va_A [(h0, .inr (9, [.ref h2, .ref h7, .ref h8, .int 0, .ref h9, .ref h3, .ref h4, .ref h6, .ref h10, .ref h11, .ref h12, .ref h1])), (h1, .inl (cI, 7, .inl (fun _ => 0))), (h2, .inr (6, [.int 0, .ref h13, .ref h14, .int 0, .int 5, .int 9, .int 0, .int 1, .int 0, .int 0, .ref h15, .ref h16, .int 0, .ref h17, .int 0, .ref h18, .int 0])), (h3, .inr (5, [.int 0, .int 1, .int 1, .int 1, .int 0, .ref h19, .ref h20, .ref h21, .ref h22, .ref h23, .ref h24])), (h4, .inr (3, [.ref h2, .ref h3, .ref h25, .ref h5, .ref h26, .int 0])), (h5, .inl (cZ, 120, .inl (upd (fun _ => 0) (Int32.toNatClampNeg 0) (vp_nar .boolean 1)))), (h6, .inr (1, [.ref h3, .ref h4, .ref h27, .ref h28, .ref h29, .ref h30, .ref h31, .int 0, .int 0]))] sz)) 0 0 (va_A [(h0, .inr (9, [.ref h2, .ref h7, .ref h8, .int 0, .ref h9, .ref h3, .ref h4, .ref h6, .ref h10, .ref h11, .ref h12, .ref h1])), (h1, .inl (cI, 7, .inl (fun _ => 0))), (h2, .inr (6, [.int 0, .ref h13, .ref h14, .int 0, .int 5, .int 9, .int 0, .int 1, .int 0, .int 0, .ref h15, .ref h16, .int 0, .ref h17, .int 0, .ref h18, .int 0])), (h3, .inr (5, [.int 0, .int 1, .int 1, .int 1, .int 0, .ref h19, .ref h20, .ref h21, .ref h22, .ref h23, .ref h24])), (h4, .inr (3, [.ref h2, .ref h3, .ref h25, .ref h5, .ref h26, .int 0])), (h5, .inl (cZ, 120, .inl (upd (fun _ => 0) (Int32.toNatClampNeg 0) (vp_nar .boolean 1)))), (h6, .inr (1, [.ref h3, .ref h4, .ref h27, .ref h28, .ref h29, .ref h30, .ref h31, .int 0, .int 0]))] sz) := by
  refine Met.ofW (cc := cX9_law) (maxL := 3) (ret := (some .int)) (by decide) rfl ?_
  intro p e s m args below meth c s₁ B hml hv
  obtain ⟨rfl, hsz, hP, hK, hD0⟩ := hv
  have hx := B.exec
  have hb := B.bytes
  have hr := B.returns
  have hts := atoms_spec (ws := wsX9_law) B.pre
  have hown : s.vm.findClass RX9 = some m.cls := findClass_of_methodNamed B.named
  have hlocks := B.notSynchronized
  subst hsz
  have hD := hD0.self (sz := s.heap.size)
  generalize hAe : va_A [(h0, .inr (9, [.ref h2, .ref h7, .ref h8, .int 0, .ref h9, .ref h3, .ref h4, .ref h6, .ref h10, .ref h11, .ref h12, .ref h1])), (h1, .inl (cI, 7, .inl (fun _ => 0))), (h2, .inr (6, [.int 0, .ref h13, .ref h14, .int 0, .int 5, .int 9, .int 0, .int 1, .int 0, .int 0, .ref h15, .ref h16, .int 0, .ref h17, .int 0, .ref h18, .int 0])), (h3, .inr (5, [.int 0, .int 1, .int 1, .int 1, .int 0, .ref h19, .ref h20, .ref h21, .ref h22, .ref h23, .ref h24])), (h4, .inr (3, [.ref h2, .ref h3, .ref h25, .ref h5, .ref h26, .int 0])), (h5, .inl (cZ, 120, .inl (upd (fun _ => 0) (Int32.toNatClampNeg 0) (vp_nar .boolean 1)))), (h6, .inr (1, [.ref h3, .ref h4, .ref h27, .ref h28, .ref h29, .ref h30, .ref h31, .int 0, .int 0]))] s.heap.size = A at hD ⊢
  have hA : ∀ q : Nat, s.heap.size ≤ q → A q := fun q h => by rw [← hAe]; exact Or.inr h
  have hS : va_S A s.heap s.heap [] := va_S.rf
  have hl := lv_entry ([.ref h0, .int p1]) (n := 3) (Nat.le_of_ble_eq_true rfl)
  rw [lg_entry_eq]
  generalize (lg_sl ([.ref h0, .int p1]) ++ List.replicate (3 - (lg_sl ([.ref h0, .int p1])).length) Slot.unset).toArray = ls at hl ⊢
  have hl : lv_has ls 3 [(0, .ref h0), (1, .int p1)] := hl
  refine lv_iload_n hx hb dX9_law_0 rfl (lv_at hl 1 rfl) ?_
  refine lv_if_lt (tgt := 9) hx hb dX9_law_1 (by decide) (fun c1 => ?_) (fun c1 => ?_)
  · refine lv_aload_n hx hb dX9_law_9 rfl (lv_at hl 0 rfl) ?_
    refine lv_bipush (v := (-2)) hx hb dX9_law_10 (by decide) ?_
    have hPc := hP.sub (ws' := [(h0, .inr (9, [.ref h2, .ref h7, .ref h8, .int 0, .ref h9, .ref h3, .ref h4, .ref h6, .ref h10, .ref h11, .ref h12, .ref h1])), (h1, .inl (cI, 7, .inl (fun _ => 0)))]) [0, 1] rfl
    have hDc := hD.sub (ws' := [(h0, .inr (9, [.ref h2, .ref h7, .ref h8, .int 0, .ref h9, .ref h3, .ref h4, .ref h6, .ref h10, .ref h11, .ref h12, .ref h1])), (h1, .inl (cI, 7, .inl (fun _ => 0)))]) [0, 1] (by decide) rfl
    have hFc := va_free (wc := [(h0, .inr (9, [.ref h2, .ref h7, .ref h8, .int 0, .ref h9, .ref h3, .ref h4, .ref h6, .ref h10, .ref h11, .ref h12, .ref h1])), (h1, .inl (cI, 7, .inl (fun _ => 0)))]) hD hS hA [0, 1] rfl
    refine va_calli (va_runV (As := [.int (-2)]) (rest := []) ⟨hx, hb, hml, hown, hts⟩ (k_X9_refuse_3 l D cC cI cZ h0 h1 h2 h7 h8 h9 h3 h4 h6 h10 h11 h12 s.heap.size ) (cwV 1 hts gX9_law_X9_refuse rfl rfl rfl (by decide +kernel) ⟨(Nat.le_of_ble_eq_true rfl), (Nat.le_of_ble_eq_true rfl)⟩) (kPreV hK hPc hDc (va_recv hK hPc (ci := 9) (q0 := 0) rfl rfl)) rfl rfl hl.1 rfl (lv_room (Nat.le_of_ble_eq_true rfl)) dX9_law_12 ⟨(Nat.le_of_ble_eq_true rfl), (Nat.le_of_ble_eq_true rfl)⟩) hS (fun q _ h => hFc q h) hFc (fun r2 u t H1 locs ht hvm hw hB hz1 hk1 hS => ?_)
    obtain ⟨hP1, hD1⟩ := hB
    rw [ht] at hP1
    obtain ⟨hP, hD⟩ := va_join (wr := [(h2, .inr (6, [.int 0, .ref h13, .ref h14, .int 0, .int 5, .int 9, .int 0, .int 1, .int 0, .int 0, .ref h15, .ref h16, .int 0, .ref h17, .int 0, .ref h18, .int 0])), (h3, .inr (5, [.int 0, .int 1, .int 1, .int 1, .int 0, .ref h19, .ref h20, .ref h21, .ref h22, .ref h23, .ref h24])), (h4, .inr (3, [.ref h2, .ref h3, .ref h25, .ref h5, .ref h26, .int 0])), (h5, .inl (cZ, 120, .inl (upd (fun _ => 0) (Int32.toNatClampNeg 0) (vp_nar .boolean 1)))), (h6, .inr (1, [.ref h3, .ref h4, .ref h27, .ref h28, .ref h29, .ref h30, .ref h31, .int 0, .int 0]))]) (w1 := [(h0, .inr (9, [.ref h2, .ref h7, .ref h8, .int 0, .ref h9, .ref h3, .ref h4, .ref h6, .ref h10, .ref h11, .ref h12, .ref h1])), (h1, .inl (cI, 7, .inl (upd (fun _ => 0) (Int32.toNatClampNeg 2) 1)))]) hP hD [0, 1] [2, 3, 4, 5, 6] rfl rfl (by decide) (by decide) hk1 hFc hP1 hD1
    generalize H1 = H at hP hS ⊢
    have hP : va_P D vwCl [(h2, .inr (6, [.int 0, .ref h13, .ref h14, .int 0, .int 5, .int 9, .int 0, .int 1, .int 0, .int 0, .ref h15, .ref h16, .int 0, .ref h17, .int 0, .ref h18, .int 0])), (h3, .inr (5, [.int 0, .int 1, .int 1, .int 1, .int 0, .ref h19, .ref h20, .ref h21, .ref h22, .ref h23, .ref h24])), (h4, .inr (3, [.ref h2, .ref h3, .ref h25, .ref h5, .ref h26, .int 0])), (h5, .inl (cZ, 120, .inl (upd (fun _ => 0) (Int32.toNatClampNeg 0) (vp_nar .boolean 1)))), (h6, .inr (1, [.ref h3, .ref h4, .ref h27, .ref h28, .ref h29, .ref h30, .ref h31, .int 0, .int 0])), (h0, .inr (9, [.ref h2, .ref h7, .ref h8, .int 0, .ref h9, .ref h3, .ref h4, .ref h6, .ref h10, .ref h11, .ref h12, .ref h1])), (h1, .inl (cI, 7, .inl (upd (fun _ => 0) (Int32.toNatClampNeg 2) 1)))] H := hP
    have hD : va_D A [(h2, .inr (6, [.int 0, .ref h13, .ref h14, .int 0, .int 5, .int 9, .int 0, .int 1, .int 0, .int 0, .ref h15, .ref h16, .int 0, .ref h17, .int 0, .ref h18, .int 0])), (h3, .inr (5, [.int 0, .int 1, .int 1, .int 1, .int 0, .ref h19, .ref h20, .ref h21, .ref h22, .ref h23, .ref h24])), (h4, .inr (3, [.ref h2, .ref h3, .ref h25, .ref h5, .ref h26, .int 0])), (h5, .inl (cZ, 120, .inl (upd (fun _ => 0) (Int32.toNatClampNeg 0) (vp_nar .boolean 1)))), (h6, .inr (1, [.ref h3, .ref h4, .ref h27, .ref h28, .ref h29, .ref h30, .ref h31, .int 0, .int 0])), (h0, .inr (9, [.ref h2, .ref h7, .ref h8, .int 0, .ref h9, .ref h3, .ref h4, .ref h6, .ref h10, .ref h11, .ref h12, .ref h1])), (h1, .inl (cI, 7, .inl (upd (fun _ => 0) (Int32.toNatClampNeg 2) 1)))] := hD
    have hw : r2 = (-2) := hw
    subst hw
    refine W.widen (k := 0) (n := 0) (Nat.le_of_ble_eq_true rfl) (Nat.le_of_ble_eq_true rfl) ?_
    exact W.iret (v := (-2)) hx hb hr (fun t ht hW => ⟨⟨(-2), (), rfl, (by rw [if_pos c1]), trivial⟩, hS.F ht⟩) hS.2.2 dX9_law_15
  · refine lv_iload_n hx hb dX9_law_4 rfl (lv_at hl 1 rfl) ?_
    refine lv_iconst (v := 5) hx hb dX9_law_5 (by decide) ?_
    refine lv_icmp_lt (tgt := 16) hx hb dX9_law_6 (by decide) (fun c3 => ?_) (fun c3 => ?_)
    · refine lv_aload_n hx hb dX9_law_16 rfl (lv_at hl 0 rfl) ?_
      refine va_get (D := D) (ci := 9) (v := .ref h2) (C := RX9) (T := TX9) (N := 12) hx hb hts iw_X9_law_X9 hown hK hP 0 rfl rfl 0 (by decide) (hts (.fieldLink RX9 10 "TopTurned" "now" "LTopTurned$Told;") (by decide +kernel)) (fun _ h9 => h9) rfl dX9_law_17 ?_
      refine va_get (D := D) (ci := 6) (v := .int 0) (C := RX6) (T := TX6) (N := 17) hx hb hts iw_X9_law_X6 hown hK hP 2 rfl rfl 3 (by decide) (hts (.fieldLink RX9 124 "TopTurned$Told" "law" "I") (by decide +kernel)) (fun _ h9 => h9) rfl dX9_law_20 ?_
      refine lv_istore_n (lv' := [(2, .int 0), (0, .ref h0), (1, .int p1)]) hx hb dX9_law_23 rfl hl (by decide) rfl (fun ls hl => ?_)
      refine lv_aload_n hx hb dX9_law_24 rfl (lv_at hl 1 rfl) ?_
      refine va_get (D := D) (ci := 9) (v := .ref h2) (C := RX9) (T := TX9) (N := 12) hx hb hts iw_X9_law_X9 hown hK hP 0 rfl rfl 0 (by decide) (hts (.fieldLink RX9 10 "TopTurned" "now" "LTopTurned$Told;") (by decide +kernel)) (fun _ h9 => h9) rfl dX9_law_25 ?_
      refine lv_iload_n hx hb dX9_law_28 rfl (lv_at hl 2 rfl) ?_
      refine va_put (D := D) (ci := 6) (v := .int p1) (ty := .int) (C := RX6) (T := TX6) (N := 17) hx hb hts iw_X9_law_X6 tyX6 tyX6_ok nmX6 hown hK hP hD hS 2 rfl rfl 3 (by decide) (hts (.fieldLink RX9 124 "TopTurned$Told" "law" "I") (by decide +kernel)) (fun _ h9 => h9) rfl (by decide +kernel) rfl rfl (Nat.le_of_ble_eq_true rfl) dX9_law_29 (fun H locs hP hD hS => ?_)
      have hP : va_P D vwCl [(h0, .inr (9, [.ref h2, .ref h7, .ref h8, .int 0, .ref h9, .ref h3, .ref h4, .ref h6, .ref h10, .ref h11, .ref h12, .ref h1])), (h1, .inl (cI, 7, .inl (fun _ => 0))), (h2, .inr (6, [.int 0, .ref h13, .ref h14, .int p1, .int 5, .int 9, .int 0, .int 1, .int 0, .int 0, .ref h15, .ref h16, .int 0, .ref h17, .int 0, .ref h18, .int 0])), (h3, .inr (5, [.int 0, .int 1, .int 1, .int 1, .int 0, .ref h19, .ref h20, .ref h21, .ref h22, .ref h23, .ref h24])), (h4, .inr (3, [.ref h2, .ref h3, .ref h25, .ref h5, .ref h26, .int 0])), (h5, .inl (cZ, 120, .inl (upd (fun _ => 0) (Int32.toNatClampNeg 0) (vp_nar .boolean 1)))), (h6, .inr (1, [.ref h3, .ref h4, .ref h27, .ref h28, .ref h29, .ref h30, .ref h31, .int 0, .int 0]))] H := hP
      have hD : va_D A [(h0, .inr (9, [.ref h2, .ref h7, .ref h8, .int 0, .ref h9, .ref h3, .ref h4, .ref h6, .ref h10, .ref h11, .ref h12, .ref h1])), (h1, .inl (cI, 7, .inl (fun _ => 0))), (h2, .inr (6, [.int 0, .ref h13, .ref h14, .int p1, .int 5, .int 9, .int 0, .int 1, .int 0, .int 0, .ref h15, .ref h16, .int 0, .ref h17, .int 0, .ref h18, .int 0])), (h3, .inr (5, [.int 0, .int 1, .int 1, .int 1, .int 0, .ref h19, .ref h20, .ref h21, .ref h22, .ref h23, .ref h24])), (h4, .inr (3, [.ref h2, .ref h3, .ref h25, .ref h5, .ref h26, .int 0])), (h5, .inl (cZ, 120, .inl (upd (fun _ => 0) (Int32.toNatClampNeg 0) (vp_nar .boolean 1)))), (h6, .inr (1, [.ref h3, .ref h4, .ref h27, .ref h28, .ref h29, .ref h30, .ref h31, .int 0, .int 0]))] := hD
      refine lv_aload_n hx hb dX9_law_32 rfl (lv_at hl 1 rfl) ?_
      have hPc := hP.sub (ws' := [(h0, .inr (9, [.ref h2, .ref h7, .ref h8, .int 0, .ref h9, .ref h3, .ref h4, .ref h6, .ref h10, .ref h11, .ref h12, .ref h1])), (h2, .inr (6, [.int 0, .ref h13, .ref h14, .int p1, .int 5, .int 9, .int 0, .int 1, .int 0, .int 0, .ref h15, .ref h16, .int 0, .ref h17, .int 0, .ref h18, .int 0])), (h3, .inr (5, [.int 0, .int 1, .int 1, .int 1, .int 0, .ref h19, .ref h20, .ref h21, .ref h22, .ref h23, .ref h24])), (h4, .inr (3, [.ref h2, .ref h3, .ref h25, .ref h5, .ref h26, .int 0])), (h5, .inl (cZ, 120, .inl (upd (fun _ => 0) (Int32.toNatClampNeg 0) (vp_nar .boolean 1)))), (h6, .inr (1, [.ref h3, .ref h4, .ref h27, .ref h28, .ref h29, .ref h30, .ref h31, .int 0, .int 0]))]) [0, 2, 3, 4, 5, 6] rfl
      have hDc := hD.sub (ws' := [(h0, .inr (9, [.ref h2, .ref h7, .ref h8, .int 0, .ref h9, .ref h3, .ref h4, .ref h6, .ref h10, .ref h11, .ref h12, .ref h1])), (h2, .inr (6, [.int 0, .ref h13, .ref h14, .int p1, .int 5, .int 9, .int 0, .int 1, .int 0, .int 0, .ref h15, .ref h16, .int 0, .ref h17, .int 0, .ref h18, .int 0])), (h3, .inr (5, [.int 0, .int 1, .int 1, .int 1, .int 0, .ref h19, .ref h20, .ref h21, .ref h22, .ref h23, .ref h24])), (h4, .inr (3, [.ref h2, .ref h3, .ref h25, .ref h5, .ref h26, .int 0])), (h5, .inl (cZ, 120, .inl (upd (fun _ => 0) (Int32.toNatClampNeg 0) (vp_nar .boolean 1)))), (h6, .inr (1, [.ref h3, .ref h4, .ref h27, .ref h28, .ref h29, .ref h30, .ref h31, .int 0, .int 0]))]) [0, 2, 3, 4, 5, 6] (by decide) rfl
      have hFc := va_free (wc := [(h0, .inr (9, [.ref h2, .ref h7, .ref h8, .int 0, .ref h9, .ref h3, .ref h4, .ref h6, .ref h10, .ref h11, .ref h12, .ref h1])), (h2, .inr (6, [.int 0, .ref h13, .ref h14, .int p1, .int 5, .int 9, .int 0, .int 1, .int 0, .int 0, .ref h15, .ref h16, .int 0, .ref h17, .int 0, .ref h18, .int 0])), (h3, .inr (5, [.int 0, .int 1, .int 1, .int 1, .int 0, .ref h19, .ref h20, .ref h21, .ref h22, .ref h23, .ref h24])), (h4, .inr (3, [.ref h2, .ref h3, .ref h25, .ref h5, .ref h26, .int 0])), (h5, .inl (cZ, 120, .inl (upd (fun _ => 0) (Int32.toNatClampNeg 0) (vp_nar .boolean 1)))), (h6, .inr (1, [.ref h3, .ref h4, .ref h27, .ref h28, .ref h29, .ref h30, .ref h31, .int 0, .int 0]))]) hD hS hA [0, 2, 3, 4, 5, 6] rfl
      refine va_callv (va_runV (As := []) (rest := []) ⟨hx, hb, hml, hown, hts⟩ (k_X9_settle l D cC cI cZ h0 h2 h3 h4 h5 h6 h7 h8 h9 h10 h11 h12 h1 h13 h14 h15 h16 h17 h18 h19 h20 h21 h22 h23 h24 h25 h26 h27 h28 h29 h30 h31 H.size p1) (cwV 0 hts gX9_law_X9_settle rfl rfl rfl (by decide +kernel) ⟨(Nat.le_of_ble_eq_true rfl), (Nat.le_of_ble_eq_true rfl)⟩) (kPreV hK hPc hDc (va_recv hK hPc (ci := 9) (q0 := 0) rfl rfl)) rfl rfl hl.1 rfl (lv_room (Nat.le_of_ble_eq_true rfl)) dX9_law_33 ⟨(Nat.le_of_ble_eq_true rfl), (Nat.le_of_ble_eq_true rfl)⟩) hS (fun q _ h => hFc q h) hFc (fun u t H1 locs ht hvm hw hB hz1 hk1 hS => ?_)
      obtain ⟨hP1, hD1⟩ := hB
      rw [ht] at hP1
      obtain ⟨hP, hD⟩ := va_join (wr := [(h1, .inl (cI, 7, .inl (fun _ => 0)))]) (w1 := [(h0, .inr (9, [.ref h2, .ref h7, .ref h8, .int 0, .ref h9, .ref h3, .ref h4, .ref h6, .ref h10, .ref h11, .ref h12, .ref h1])), (h3, .inr (5, [.int 0, .int 1, .int 1, .int 1, .int 0, .ref h19, .ref h20, .ref h21, .ref h22, .ref h23, .ref h24])), (h5, .inl (cZ, 120, .inl (upd (upd (fun _ => 0) (Int32.toNatClampNeg 0) (vp_nar .boolean 1)) (Int32.toNatClampNeg 0) (vp_nar .boolean 1)))), (h4, .inr (3, [.ref h2, .ref h3, .ref h25, .ref h5, .ref h26, .int 0])), (h2, .inr (6, [.int 0, .ref h13, .ref h14, .int p1, .int 5, .int 9, .int 0, .int 1, .int 0, .int 0, .ref h15, .ref h16, .int 0, .ref h17, .int 0, .ref h18, .int 0])), (h6, .inr (1, [.ref h3, .ref h4, .ref h27, .ref h28, .ref h29, .ref h30, .ref h31, .int 0, .int 0]))]) hP hD [0, 2, 3, 4, 5, 6] [1] rfl rfl (by decide) (by decide) hk1 hFc hP1 hD1
      generalize H1 = H at hP hS ⊢
      have hP : va_P D vwCl [(h1, .inl (cI, 7, .inl (fun _ => 0))), (h0, .inr (9, [.ref h2, .ref h7, .ref h8, .int 0, .ref h9, .ref h3, .ref h4, .ref h6, .ref h10, .ref h11, .ref h12, .ref h1])), (h3, .inr (5, [.int 0, .int 1, .int 1, .int 1, .int 0, .ref h19, .ref h20, .ref h21, .ref h22, .ref h23, .ref h24])), (h5, .inl (cZ, 120, .inl (upd (upd (fun _ => 0) (Int32.toNatClampNeg 0) (vp_nar .boolean 1)) (Int32.toNatClampNeg 0) (vp_nar .boolean 1)))), (h4, .inr (3, [.ref h2, .ref h3, .ref h25, .ref h5, .ref h26, .int 0])), (h2, .inr (6, [.int 0, .ref h13, .ref h14, .int p1, .int 5, .int 9, .int 0, .int 1, .int 0, .int 0, .ref h15, .ref h16, .int 0, .ref h17, .int 0, .ref h18, .int 0])), (h6, .inr (1, [.ref h3, .ref h4, .ref h27, .ref h28, .ref h29, .ref h30, .ref h31, .int 0, .int 0]))] H := hP
      have hD : va_D A [(h1, .inl (cI, 7, .inl (fun _ => 0))), (h0, .inr (9, [.ref h2, .ref h7, .ref h8, .int 0, .ref h9, .ref h3, .ref h4, .ref h6, .ref h10, .ref h11, .ref h12, .ref h1])), (h3, .inr (5, [.int 0, .int 1, .int 1, .int 1, .int 0, .ref h19, .ref h20, .ref h21, .ref h22, .ref h23, .ref h24])), (h5, .inl (cZ, 120, .inl (upd (upd (fun _ => 0) (Int32.toNatClampNeg 0) (vp_nar .boolean 1)) (Int32.toNatClampNeg 0) (vp_nar .boolean 1)))), (h4, .inr (3, [.ref h2, .ref h3, .ref h25, .ref h5, .ref h26, .int 0])), (h2, .inr (6, [.int 0, .ref h13, .ref h14, .int p1, .int 5, .int 9, .int 0, .int 1, .int 0, .int 0, .ref h15, .ref h16, .int 0, .ref h17, .int 0, .ref h18, .int 0])), (h6, .inr (1, [.ref h3, .ref h4, .ref h27, .ref h28, .ref h29, .ref h30, .ref h31, .int 0, .int 0]))] := hD
      refine lv_iload_n hx hb dX9_law_36 rfl (lv_at hl 0 rfl) ?_
      refine W.widen (k := 0) (n := 0) (Nat.le_of_ble_eq_true rfl) (Nat.le_of_ble_eq_true rfl) ?_
      exact W.iret (v := 0) hx hb hr (fun t ht hW => ⟨⟨0, (), rfl, (by rw [if_neg c1, if_pos c3]), trivial⟩, hS.F ht⟩) hS.2.2 dX9_law_37
    · refine lv_aload_n hx hb dX9_law_9 rfl (lv_at hl 0 rfl) ?_
      refine lv_bipush (v := (-2)) hx hb dX9_law_10 (by decide) ?_
      have hPc := hP.sub (ws' := [(h0, .inr (9, [.ref h2, .ref h7, .ref h8, .int 0, .ref h9, .ref h3, .ref h4, .ref h6, .ref h10, .ref h11, .ref h12, .ref h1])), (h1, .inl (cI, 7, .inl (fun _ => 0)))]) [0, 1] rfl
      have hDc := hD.sub (ws' := [(h0, .inr (9, [.ref h2, .ref h7, .ref h8, .int 0, .ref h9, .ref h3, .ref h4, .ref h6, .ref h10, .ref h11, .ref h12, .ref h1])), (h1, .inl (cI, 7, .inl (fun _ => 0)))]) [0, 1] (by decide) rfl
      have hFc := va_free (wc := [(h0, .inr (9, [.ref h2, .ref h7, .ref h8, .int 0, .ref h9, .ref h3, .ref h4, .ref h6, .ref h10, .ref h11, .ref h12, .ref h1])), (h1, .inl (cI, 7, .inl (fun _ => 0)))]) hD hS hA [0, 1] rfl
      refine va_calli (va_runV (As := [.int (-2)]) (rest := []) ⟨hx, hb, hml, hown, hts⟩ (k_X9_refuse_3 l D cC cI cZ h0 h1 h2 h7 h8 h9 h3 h4 h6 h10 h11 h12 s.heap.size ) (cwV 1 hts gX9_law_X9_refuse rfl rfl rfl (by decide +kernel) ⟨(Nat.le_of_ble_eq_true rfl), (Nat.le_of_ble_eq_true rfl)⟩) (kPreV hK hPc hDc (va_recv hK hPc (ci := 9) (q0 := 0) rfl rfl)) rfl rfl hl.1 rfl (lv_room (Nat.le_of_ble_eq_true rfl)) dX9_law_12 ⟨(Nat.le_of_ble_eq_true rfl), (Nat.le_of_ble_eq_true rfl)⟩) hS (fun q _ h => hFc q h) hFc (fun r4 u t H1 locs ht hvm hw hB hz1 hk1 hS => ?_)
      obtain ⟨hP1, hD1⟩ := hB
      rw [ht] at hP1
      obtain ⟨hP, hD⟩ := va_join (wr := [(h2, .inr (6, [.int 0, .ref h13, .ref h14, .int 0, .int 5, .int 9, .int 0, .int 1, .int 0, .int 0, .ref h15, .ref h16, .int 0, .ref h17, .int 0, .ref h18, .int 0])), (h3, .inr (5, [.int 0, .int 1, .int 1, .int 1, .int 0, .ref h19, .ref h20, .ref h21, .ref h22, .ref h23, .ref h24])), (h4, .inr (3, [.ref h2, .ref h3, .ref h25, .ref h5, .ref h26, .int 0])), (h5, .inl (cZ, 120, .inl (upd (fun _ => 0) (Int32.toNatClampNeg 0) (vp_nar .boolean 1)))), (h6, .inr (1, [.ref h3, .ref h4, .ref h27, .ref h28, .ref h29, .ref h30, .ref h31, .int 0, .int 0]))]) (w1 := [(h0, .inr (9, [.ref h2, .ref h7, .ref h8, .int 0, .ref h9, .ref h3, .ref h4, .ref h6, .ref h10, .ref h11, .ref h12, .ref h1])), (h1, .inl (cI, 7, .inl (upd (fun _ => 0) (Int32.toNatClampNeg 2) 1)))]) hP hD [0, 1] [2, 3, 4, 5, 6] rfl rfl (by decide) (by decide) hk1 hFc hP1 hD1
      generalize H1 = H at hP hS ⊢
      have hP : va_P D vwCl [(h2, .inr (6, [.int 0, .ref h13, .ref h14, .int 0, .int 5, .int 9, .int 0, .int 1, .int 0, .int 0, .ref h15, .ref h16, .int 0, .ref h17, .int 0, .ref h18, .int 0])), (h3, .inr (5, [.int 0, .int 1, .int 1, .int 1, .int 0, .ref h19, .ref h20, .ref h21, .ref h22, .ref h23, .ref h24])), (h4, .inr (3, [.ref h2, .ref h3, .ref h25, .ref h5, .ref h26, .int 0])), (h5, .inl (cZ, 120, .inl (upd (fun _ => 0) (Int32.toNatClampNeg 0) (vp_nar .boolean 1)))), (h6, .inr (1, [.ref h3, .ref h4, .ref h27, .ref h28, .ref h29, .ref h30, .ref h31, .int 0, .int 0])), (h0, .inr (9, [.ref h2, .ref h7, .ref h8, .int 0, .ref h9, .ref h3, .ref h4, .ref h6, .ref h10, .ref h11, .ref h12, .ref h1])), (h1, .inl (cI, 7, .inl (upd (fun _ => 0) (Int32.toNatClampNeg 2) 1)))] H := hP
      have hD : va_D A [(h2, .inr (6, [.int 0, .ref h13, .ref h14, .int 0, .int 5, .int 9, .int 0, .int 1, .int 0, .int 0, .ref h15, .ref h16, .int 0, .ref h17, .int 0, .ref h18, .int 0])), (h3, .inr (5, [.int 0, .int 1, .int 1, .int 1, .int 0, .ref h19, .ref h20, .ref h21, .ref h22, .ref h23, .ref h24])), (h4, .inr (3, [.ref h2, .ref h3, .ref h25, .ref h5, .ref h26, .int 0])), (h5, .inl (cZ, 120, .inl (upd (fun _ => 0) (Int32.toNatClampNeg 0) (vp_nar .boolean 1)))), (h6, .inr (1, [.ref h3, .ref h4, .ref h27, .ref h28, .ref h29, .ref h30, .ref h31, .int 0, .int 0])), (h0, .inr (9, [.ref h2, .ref h7, .ref h8, .int 0, .ref h9, .ref h3, .ref h4, .ref h6, .ref h10, .ref h11, .ref h12, .ref h1])), (h1, .inl (cI, 7, .inl (upd (fun _ => 0) (Int32.toNatClampNeg 2) 1)))] := hD
      have hw : r4 = (-2) := hw
      subst hw
      refine W.widen (k := 0) (n := 0) (Nat.le_of_ble_eq_true rfl) (Nat.le_of_ble_eq_true rfl) ?_
      exact W.iret (v := (-2)) hx hb hr (fun t ht hW => ⟨⟨(-2), (), rfl, (by rw [if_neg c1, if_neg c3]), trivial⟩, hS.F ht⟩) hS.2.2 dX9_law_15
set_option maxHeartbeats 4000000 in
set_option maxRecDepth 100000 in
theorem k_X5_turnOf (l : Launch) (D : va_G) (cC cI cZ : ClassId) (h0 h1 h2 h3 h4 h5 h6 : Nat) (sz : Nat) (p1 p2 : Int32) : Met l yX5_turnOf wsX5_turnOf ({ frames := 2, cells := 0, slots := 0, locals := 100 }) (va_Pc [.ref h0, .int p1, .int p2] (kPre D cC cI cZ [(h0, .inr (5, [.int 0, .int 1, .int 1, .int 1, .int 0, .ref h1, .ref h2, .ref h3, .ref h4, .ref h5, .ref h6]))] sz)) (va_Qi (fun (r : Int32) (_ : Unit) => r = (-1)) (fun _ _ => True) (fun _ => False)) 0 0 (fun _ => False) := by
  refine Met.ofW (cc := cX5_turnOf) (maxL := 4) (ret := (some .int)) (by decide) rfl ?_
  intro p e s m args below meth c s₁ B hml hv
  obtain ⟨rfl, hsz, hP, hK, hD0⟩ := hv
  have hx := B.exec
  have hb := B.bytes
  have hr := B.returns
  have hts := atoms_spec (ws := wsX5_turnOf) B.pre
  have hown : s.vm.findClass RX5 = some m.cls := findClass_of_methodNamed B.named
  have hlocks := B.notSynchronized
  subst hsz
  have hD := hD0
  have hS : va_S (fun _ => False) s.heap s.heap [] := va_S.rf
  have hl := lv_entry ([.ref h0, .int p1, .int p2]) (n := 4) (Nat.le_of_ble_eq_true rfl)
  rw [lg_entry_eq]
  generalize (lg_sl ([.ref h0, .int p1, .int p2]) ++ List.replicate (4 - (lg_sl ([.ref h0, .int p1, .int p2])).length) Slot.unset).toArray = ls at hl ⊢
  have hl : lv_has ls 4 [(0, .ref h0), (1, .int p1), (2, .int p2)] := hl
  refine lv_iconst (v := 0) hx hb dX5_turnOf_0 (by decide) ?_
  refine lv_istore_n (lv' := [(3, .int 0), (0, .ref h0), (1, .int p1), (2, .int p2)]) hx hb dX5_turnOf_1 rfl hl (by decide) rfl (fun ls hl => ?_)
  refine lv_iload_n hx hb dX5_turnOf_2 rfl (lv_at hl 0 rfl) ?_
  refine lv_aload_n hx hb dX5_turnOf_3 rfl (lv_at hl 1 rfl) ?_
  refine va_get (D := D) (ci := 5) (v := .int 0) (C := RX5) (T := TX5) (N := 11) hx hb hts iw_X5_turnOf_X5 hown hK hP 0 rfl rfl 4 (by decide) (hts (.fieldLink RX5 56 "TopTurned$Space" "turns" "I") (by decide +kernel)) (fun _ h9 => h9) rfl dX5_turnOf_4 ?_
  refine lv_icmp_ge (tgt := 38) hx hb dX5_turnOf_7 (by decide) (fun _ => ?_) (fun c => absurd (by decide) c)
  refine lv_iconst (v := (-1)) hx hb dX5_turnOf_38 (by decide) ?_
  exact W.iret (v := (-1)) hx hb hr (fun t ht hW => ⟨⟨(-1), (), rfl, rfl, trivial⟩, hS.F ht⟩) hS.2.2 dX5_turnOf_39
set_option maxHeartbeats 4000000 in
set_option maxRecDepth 100000 in
theorem k_X9_may (l : Launch) (D : va_G) (cC cI cZ : ClassId) (h0 h1 h2 h3 h4 h5 h6 h7 h8 h9 h10 h11 h12 h13 h14 h15 h16 h17 : Nat) (sz : Nat) (p1 p2 : Int32) : Met l yX9_may wsX9_may ({ frames := 4, cells := 0, slots := 0, locals := 200 }) (va_Pc [.ref h0, .int p1, .int p2] (kPre D cC cI cZ [(h0, .inr (9, [.ref h3, .ref h4, .ref h5, .int 0, .ref h6, .ref h1, .ref h7, .ref h8, .ref h9, .ref h10, .ref h11, .ref h2])), (h1, .inr (5, [.int 0, .int 1, .int 1, .int 1, .int 0, .ref h12, .ref h13, .ref h14, .ref h15, .ref h16, .ref h17])), (h2, .inl (cI, 7, .inl (fun _ => 0)))] sz)) (va_Qi (fun (r : Int32) (_ : Unit) => r = (-1)) (fun _ _ => True) (va_A [(h0, .inr (9, [.ref h3, .ref h4, .ref h5, .int 0, .ref h6, .ref h1, .ref h7, .ref h8, .ref h9, .ref h10, .ref h11, .ref h2])), (h1, .inr (5, [.int 0, .int 1, .int 1, .int 1, .int 0, .ref h12, .ref h13, .ref h14, .ref h15, .ref h16, .ref h17])), (h2, .inl (cI, 7, .inl (fun _ => 0)))] sz)) 0 0 (va_A [(h0, .inr (9, [.ref h3, .ref h4, .ref h5, .int 0, .ref h6, .ref h1, .ref h7, .ref h8, .ref h9, .ref h10, .ref h11, .ref h2])), (h1, .inr (5, [.int 0, .int 1, .int 1, .int 1, .int 0, .ref h12, .ref h13, .ref h14, .ref h15, .ref h16, .ref h17])), (h2, .inl (cI, 7, .inl (fun _ => 0)))] sz) := by
  refine Met.ofW (cc := cX9_may) (maxL := 4) (ret := (some .int)) (by decide) rfl ?_
  intro p e s m args below meth c s₁ B hml hv
  obtain ⟨rfl, hsz, hP, hK, hD0⟩ := hv
  have hx := B.exec
  have hb := B.bytes
  have hr := B.returns
  have hts := atoms_spec (ws := wsX9_may) B.pre
  have hown : s.vm.findClass RX9 = some m.cls := findClass_of_methodNamed B.named
  have hlocks := B.notSynchronized
  subst hsz
  have hD := hD0.self (sz := s.heap.size)
  generalize hAe : va_A [(h0, .inr (9, [.ref h3, .ref h4, .ref h5, .int 0, .ref h6, .ref h1, .ref h7, .ref h8, .ref h9, .ref h10, .ref h11, .ref h2])), (h1, .inr (5, [.int 0, .int 1, .int 1, .int 1, .int 0, .ref h12, .ref h13, .ref h14, .ref h15, .ref h16, .ref h17])), (h2, .inl (cI, 7, .inl (fun _ => 0)))] s.heap.size = A at hD ⊢
  have hA : ∀ q : Nat, s.heap.size ≤ q → A q := fun q h => by rw [← hAe]; exact Or.inr h
  have hS : va_S A s.heap s.heap [] := va_S.rf
  have hl := lv_entry ([.ref h0, .int p1, .int p2]) (n := 4) (Nat.le_of_ble_eq_true rfl)
  rw [lg_entry_eq]
  generalize (lg_sl ([.ref h0, .int p1, .int p2]) ++ List.replicate (4 - (lg_sl ([.ref h0, .int p1, .int p2])).length) Slot.unset).toArray = ls at hl ⊢
  have hl : lv_has ls 4 [(0, .ref h0), (1, .int p1), (2, .int p2)] := hl
  refine lv_aload_n hx hb dX9_may_0 rfl (lv_at hl 0 rfl) ?_
  refine va_get (D := D) (ci := 9) (v := .ref h1) (C := RX9) (T := TX9) (N := 12) hx hb hts iw_X9_may_X9 hown hK hP 0 rfl rfl 5 (by decide) (hts (.fieldLink RX9 38 "TopTurned" "space" "LTopTurned$Space;") (by decide +kernel)) (fun _ h9 => h9) rfl dX9_may_1 ?_
  refine lv_iload_n hx hb dX9_may_4 rfl (lv_at hl 1 rfl) ?_
  refine lv_iload_n hx hb dX9_may_5 rfl (lv_at hl 2 rfl) ?_
  have hPc := hP.sub (ws' := [(h1, .inr (5, [.int 0, .int 1, .int 1, .int 1, .int 0, .ref h12, .ref h13, .ref h14, .ref h15, .ref h16, .ref h17]))]) [1] rfl
  have hDc := hD.sub (ws' := [(h1, .inr (5, [.int 0, .int 1, .int 1, .int 1, .int 0, .ref h12, .ref h13, .ref h14, .ref h15, .ref h16, .ref h17]))]) [1] (by decide) rfl
  refine va_calli (va_runV (As := [.int p1, .int p2]) (rest := []) ⟨hx, hb, hml, hown, hts⟩ (k_X5_turnOf l D cC cI cZ h1 h12 h13 h14 h15 h16 h17 s.heap.size p1 p2) (cwV 2 hts gX9_may_X5_turnOf rfl rfl rfl (by decide +kernel) ⟨(Nat.le_of_ble_eq_true rfl), (Nat.le_of_ble_eq_true rfl)⟩) (kPreV hK hPc hDc (va_recv hK hPc (ci := 5) (q0 := 0) rfl rfl)) rfl rfl hl.1 rfl (lv_room (Nat.le_of_ble_eq_true rfl)) dX9_may_6 ⟨(Nat.le_of_ble_eq_true rfl), (Nat.le_of_ble_eq_true rfl)⟩) hS (fun q _ h => False.elim h) (fun q h => False.elim h) (fun r1 u t H1 locs ht hvm hw hB hz1 hk1 hS => ?_)
  have hP := hP.kept (H1 := H1) (fun k q hk => hk1 q.1 (hP k q hk).lt (fun h => h))
  generalize H1 = H at hP hS ⊢
  have hw : r1 = (-1) := hw
  subst hw
  refine lv_istore_n (lv' := [(3, .int (-1)), (0, .ref h0), (1, .int p1), (2, .int p2)]) hx hb dX9_may_9 rfl hl (by decide) rfl (fun ls hl => ?_)
  refine lv_iload_n hx hb dX9_may_10 rfl (lv_at hl 0 rfl) ?_
  refine lv_if_ge (tgt := 20) hx hb dX9_may_11 (by decide) (fun c => absurd c (by decide)) (fun _ => ?_)
  refine lv_aload_n hx hb dX9_may_14 rfl (lv_at hl 1 rfl) ?_
  refine lv_iconst (v := (-1)) hx hb dX9_may_15 (by decide) ?_
  have hPc := hP.sub (ws' := [(h0, .inr (9, [.ref h3, .ref h4, .ref h5, .int 0, .ref h6, .ref h1, .ref h7, .ref h8, .ref h9, .ref h10, .ref h11, .ref h2])), (h2, .inl (cI, 7, .inl (fun _ => 0)))]) [0, 2] rfl
  have hDc := hD.sub (ws' := [(h0, .inr (9, [.ref h3, .ref h4, .ref h5, .int 0, .ref h6, .ref h1, .ref h7, .ref h8, .ref h9, .ref h10, .ref h11, .ref h2])), (h2, .inl (cI, 7, .inl (fun _ => 0)))]) [0, 2] (by decide) rfl
  have hFc := va_free (wc := [(h0, .inr (9, [.ref h3, .ref h4, .ref h5, .int 0, .ref h6, .ref h1, .ref h7, .ref h8, .ref h9, .ref h10, .ref h11, .ref h2])), (h2, .inl (cI, 7, .inl (fun _ => 0)))]) hD hS hA [0, 2] rfl
  refine va_calli (va_runV (As := [.int (-1)]) (rest := []) ⟨hx, hb, hml, hown, hts⟩ (k_X9_refuse_2 l D cC cI cZ h0 h2 h3 h4 h5 h6 h1 h7 h8 h9 h10 h11 H.size ) (cwV 1 hts gX9_may_X9_refuse rfl rfl rfl (by decide +kernel) ⟨(Nat.le_of_ble_eq_true rfl), (Nat.le_of_ble_eq_true rfl)⟩) (kPreV hK hPc hDc (va_recv hK hPc (ci := 9) (q0 := 0) rfl rfl)) rfl rfl hl.1 rfl (lv_room (Nat.le_of_ble_eq_true rfl)) dX9_may_16 ⟨(Nat.le_of_ble_eq_true rfl), (Nat.le_of_ble_eq_true rfl)⟩) hS (fun q _ h => hFc q h) hFc (fun r2 u t H1 locs ht hvm hw hB hz1 hk1 hS => ?_)
  obtain ⟨hP1, hD1⟩ := hB
  rw [ht] at hP1
  obtain ⟨hP, hD⟩ := va_join (wr := [(h1, .inr (5, [.int 0, .int 1, .int 1, .int 1, .int 0, .ref h12, .ref h13, .ref h14, .ref h15, .ref h16, .ref h17]))]) (w1 := [(h0, .inr (9, [.ref h3, .ref h4, .ref h5, .int 0, .ref h6, .ref h1, .ref h7, .ref h8, .ref h9, .ref h10, .ref h11, .ref h2])), (h2, .inl (cI, 7, .inl (upd (fun _ => 0) (Int32.toNatClampNeg 1) 1)))]) hP hD [0, 2] [1] rfl rfl (by decide) (by decide) hk1 hFc hP1 hD1
  generalize H1 = H at hP hS ⊢
  have hP : va_P D vwCl [(h1, .inr (5, [.int 0, .int 1, .int 1, .int 1, .int 0, .ref h12, .ref h13, .ref h14, .ref h15, .ref h16, .ref h17])), (h0, .inr (9, [.ref h3, .ref h4, .ref h5, .int 0, .ref h6, .ref h1, .ref h7, .ref h8, .ref h9, .ref h10, .ref h11, .ref h2])), (h2, .inl (cI, 7, .inl (upd (fun _ => 0) (Int32.toNatClampNeg 1) 1)))] H := hP
  have hD : va_D A [(h1, .inr (5, [.int 0, .int 1, .int 1, .int 1, .int 0, .ref h12, .ref h13, .ref h14, .ref h15, .ref h16, .ref h17])), (h0, .inr (9, [.ref h3, .ref h4, .ref h5, .int 0, .ref h6, .ref h1, .ref h7, .ref h8, .ref h9, .ref h10, .ref h11, .ref h2])), (h2, .inl (cI, 7, .inl (upd (fun _ => 0) (Int32.toNatClampNeg 1) 1)))] := hD
  have hw : r2 = (-1) := hw
  subst hw
  refine W.widen (k := 0) (n := 0) (Nat.le_of_ble_eq_true rfl) (Nat.le_of_ble_eq_true rfl) ?_
  exact W.iret (v := (-1)) hx hb hr (fun t ht hW => ⟨⟨(-1), (), rfl, rfl, trivial⟩, hS.F ht⟩) hS.2.2 dX9_may_19
set_option maxHeartbeats 4000000 in
set_option maxRecDepth 100000 in
theorem k_X9_turn (l : Launch) (D : va_G) (cC cI cZ : ClassId) (h0 h1 h2 h3 h4 h5 h6 h7 h8 h9 h10 h11 h12 h13 h14 h15 h16 h17 : Nat) (sz : Nat) (p1 p2 : Int32) : Met l yX9_turn wsX9_turn ({ frames := 4, cells := 0, slots := 0, locals := 200 }) (va_Pc [.ref h0, .int p1, .int p2] (kPre D cC cI cZ [(h0, .inr (9, [.ref h3, .ref h4, .ref h5, .int 0, .ref h6, .ref h1, .ref h7, .ref h8, .ref h9, .ref h10, .ref h11, .ref h2])), (h1, .inr (5, [.int 0, .int 1, .int 1, .int 1, .int 0, .ref h12, .ref h13, .ref h14, .ref h15, .ref h16, .ref h17])), (h2, .inl (cI, 7, .inl (fun _ => 0)))] sz)) (va_Qi (fun (r : Int32) (_ : Unit) => r = (-1)) (fun _ _ => True) (va_A [(h0, .inr (9, [.ref h3, .ref h4, .ref h5, .int 0, .ref h6, .ref h1, .ref h7, .ref h8, .ref h9, .ref h10, .ref h11, .ref h2])), (h1, .inr (5, [.int 0, .int 1, .int 1, .int 1, .int 0, .ref h12, .ref h13, .ref h14, .ref h15, .ref h16, .ref h17])), (h2, .inl (cI, 7, .inl (fun _ => 0)))] sz)) 0 0 (va_A [(h0, .inr (9, [.ref h3, .ref h4, .ref h5, .int 0, .ref h6, .ref h1, .ref h7, .ref h8, .ref h9, .ref h10, .ref h11, .ref h2])), (h1, .inr (5, [.int 0, .int 1, .int 1, .int 1, .int 0, .ref h12, .ref h13, .ref h14, .ref h15, .ref h16, .ref h17])), (h2, .inl (cI, 7, .inl (fun _ => 0)))] sz) := by
  refine Met.ofW (cc := cX9_turn) (maxL := 5) (ret := (some .int)) (by decide) rfl ?_
  intro p e s m args below meth c s₁ B hml hv
  obtain ⟨rfl, hsz, hP, hK, hD0⟩ := hv
  have hx := B.exec
  have hb := B.bytes
  have hr := B.returns
  have hts := atoms_spec (ws := wsX9_turn) B.pre
  have hown : s.vm.findClass RX9 = some m.cls := findClass_of_methodNamed B.named
  have hlocks := B.notSynchronized
  subst hsz
  have hD := hD0.self (sz := s.heap.size)
  generalize hAe : va_A [(h0, .inr (9, [.ref h3, .ref h4, .ref h5, .int 0, .ref h6, .ref h1, .ref h7, .ref h8, .ref h9, .ref h10, .ref h11, .ref h2])), (h1, .inr (5, [.int 0, .int 1, .int 1, .int 1, .int 0, .ref h12, .ref h13, .ref h14, .ref h15, .ref h16, .ref h17])), (h2, .inl (cI, 7, .inl (fun _ => 0)))] s.heap.size = A at hD ⊢
  have hA : ∀ q : Nat, s.heap.size ≤ q → A q := fun q h => by rw [← hAe]; exact Or.inr h
  have hS : va_S A s.heap s.heap [] := va_S.rf
  have hl := lv_entry ([.ref h0, .int p1, .int p2]) (n := 5) (Nat.le_of_ble_eq_true rfl)
  rw [lg_entry_eq]
  generalize (lg_sl ([.ref h0, .int p1, .int p2]) ++ List.replicate (5 - (lg_sl ([.ref h0, .int p1, .int p2])).length) Slot.unset).toArray = ls at hl ⊢
  have hl : lv_has ls 5 [(0, .ref h0), (1, .int p1), (2, .int p2)] := hl
  refine lv_aload_n hx hb dX9_turn_0 rfl (lv_at hl 0 rfl) ?_
  refine va_get (D := D) (ci := 9) (v := .ref h1) (C := RX9) (T := TX9) (N := 12) hx hb hts iw_X9_turn_X9 hown hK hP 0 rfl rfl 5 (by decide) (hts (.fieldLink RX9 38 "TopTurned" "space" "LTopTurned$Space;") (by decide +kernel)) (fun _ h9 => h9) rfl dX9_turn_1 ?_
  refine lv_iload_n hx hb dX9_turn_4 rfl (lv_at hl 1 rfl) ?_
  refine lv_iload_n hx hb dX9_turn_5 rfl (lv_at hl 2 rfl) ?_
  have hPc := hP.sub (ws' := [(h1, .inr (5, [.int 0, .int 1, .int 1, .int 1, .int 0, .ref h12, .ref h13, .ref h14, .ref h15, .ref h16, .ref h17]))]) [1] rfl
  have hDc := hD.sub (ws' := [(h1, .inr (5, [.int 0, .int 1, .int 1, .int 1, .int 0, .ref h12, .ref h13, .ref h14, .ref h15, .ref h16, .ref h17]))]) [1] (by decide) rfl
  refine va_calli (va_runV (As := [.int p1, .int p2]) (rest := []) ⟨hx, hb, hml, hown, hts⟩ (k_X5_turnOf l D cC cI cZ h1 h12 h13 h14 h15 h16 h17 s.heap.size p1 p2) (cwV 2 hts gX9_turn_X5_turnOf rfl rfl rfl (by decide +kernel) ⟨(Nat.le_of_ble_eq_true rfl), (Nat.le_of_ble_eq_true rfl)⟩) (kPreV hK hPc hDc (va_recv hK hPc (ci := 5) (q0 := 0) rfl rfl)) rfl rfl hl.1 rfl (lv_room (Nat.le_of_ble_eq_true rfl)) dX9_turn_6 ⟨(Nat.le_of_ble_eq_true rfl), (Nat.le_of_ble_eq_true rfl)⟩) hS (fun q _ h => False.elim h) (fun q h => False.elim h) (fun r1 u t H1 locs ht hvm hw hB hz1 hk1 hS => ?_)
  have hP := hP.kept (H1 := H1) (fun k q hk => hk1 q.1 (hP k q hk).lt (fun h => h))
  generalize H1 = H at hP hS ⊢
  have hw : r1 = (-1) := hw
  subst hw
  refine lv_istore_n (lv' := [(3, .int (-1)), (0, .ref h0), (1, .int p1), (2, .int p2)]) hx hb dX9_turn_9 rfl hl (by decide) rfl (fun ls hl => ?_)
  refine lv_iload_n hx hb dX9_turn_10 rfl (lv_at hl 0 rfl) ?_
  refine lv_if_ge (tgt := 20) hx hb dX9_turn_11 (by decide) (fun c => absurd c (by decide)) (fun _ => ?_)
  refine lv_aload_n hx hb dX9_turn_14 rfl (lv_at hl 1 rfl) ?_
  refine lv_iconst (v := (-1)) hx hb dX9_turn_15 (by decide) ?_
  have hPc := hP.sub (ws' := [(h0, .inr (9, [.ref h3, .ref h4, .ref h5, .int 0, .ref h6, .ref h1, .ref h7, .ref h8, .ref h9, .ref h10, .ref h11, .ref h2])), (h2, .inl (cI, 7, .inl (fun _ => 0)))]) [0, 2] rfl
  have hDc := hD.sub (ws' := [(h0, .inr (9, [.ref h3, .ref h4, .ref h5, .int 0, .ref h6, .ref h1, .ref h7, .ref h8, .ref h9, .ref h10, .ref h11, .ref h2])), (h2, .inl (cI, 7, .inl (fun _ => 0)))]) [0, 2] (by decide) rfl
  have hFc := va_free (wc := [(h0, .inr (9, [.ref h3, .ref h4, .ref h5, .int 0, .ref h6, .ref h1, .ref h7, .ref h8, .ref h9, .ref h10, .ref h11, .ref h2])), (h2, .inl (cI, 7, .inl (fun _ => 0)))]) hD hS hA [0, 2] rfl
  refine va_calli (va_runV (As := [.int (-1)]) (rest := []) ⟨hx, hb, hml, hown, hts⟩ (k_X9_refuse_2 l D cC cI cZ h0 h2 h3 h4 h5 h6 h1 h7 h8 h9 h10 h11 H.size ) (cwV 1 hts gX9_turn_X9_refuse rfl rfl rfl (by decide +kernel) ⟨(Nat.le_of_ble_eq_true rfl), (Nat.le_of_ble_eq_true rfl)⟩) (kPreV hK hPc hDc (va_recv hK hPc (ci := 9) (q0 := 0) rfl rfl)) rfl rfl hl.1 rfl (lv_room (Nat.le_of_ble_eq_true rfl)) dX9_turn_16 ⟨(Nat.le_of_ble_eq_true rfl), (Nat.le_of_ble_eq_true rfl)⟩) hS (fun q _ h => hFc q h) hFc (fun r2 u t H1 locs ht hvm hw hB hz1 hk1 hS => ?_)
  obtain ⟨hP1, hD1⟩ := hB
  rw [ht] at hP1
  obtain ⟨hP, hD⟩ := va_join (wr := [(h1, .inr (5, [.int 0, .int 1, .int 1, .int 1, .int 0, .ref h12, .ref h13, .ref h14, .ref h15, .ref h16, .ref h17]))]) (w1 := [(h0, .inr (9, [.ref h3, .ref h4, .ref h5, .int 0, .ref h6, .ref h1, .ref h7, .ref h8, .ref h9, .ref h10, .ref h11, .ref h2])), (h2, .inl (cI, 7, .inl (upd (fun _ => 0) (Int32.toNatClampNeg 1) 1)))]) hP hD [0, 2] [1] rfl rfl (by decide) (by decide) hk1 hFc hP1 hD1
  generalize H1 = H at hP hS ⊢
  have hP : va_P D vwCl [(h1, .inr (5, [.int 0, .int 1, .int 1, .int 1, .int 0, .ref h12, .ref h13, .ref h14, .ref h15, .ref h16, .ref h17])), (h0, .inr (9, [.ref h3, .ref h4, .ref h5, .int 0, .ref h6, .ref h1, .ref h7, .ref h8, .ref h9, .ref h10, .ref h11, .ref h2])), (h2, .inl (cI, 7, .inl (upd (fun _ => 0) (Int32.toNatClampNeg 1) 1)))] H := hP
  have hD : va_D A [(h1, .inr (5, [.int 0, .int 1, .int 1, .int 1, .int 0, .ref h12, .ref h13, .ref h14, .ref h15, .ref h16, .ref h17])), (h0, .inr (9, [.ref h3, .ref h4, .ref h5, .int 0, .ref h6, .ref h1, .ref h7, .ref h8, .ref h9, .ref h10, .ref h11, .ref h2])), (h2, .inl (cI, 7, .inl (upd (fun _ => 0) (Int32.toNatClampNeg 1) 1)))] := hD
  have hw : r2 = (-1) := hw
  subst hw
  refine W.widen (k := 0) (n := 0) (Nat.le_of_ble_eq_true rfl) (Nat.le_of_ble_eq_true rfl) ?_
  exact W.iret (v := (-1)) hx hb hr (fun t ht hW => ⟨⟨(-1), (), rfl, rfl, trivial⟩, hS.F ht⟩) hS.2.2 dX9_turn_19
set_option maxHeartbeats 4000000 in
set_option maxRecDepth 100000 in
theorem k_X5_orderOf (l : Launch) (D : va_G) (cC cI cZ : ClassId) (h0 h1 h2 h3 h4 h5 h6 h7 : Nat) (sz : Nat) : Met l yX5_orderOf wsX5_orderOf ({ frames := 2, cells := 0, slots := 0, locals := 100 }) (va_Pc [.ref h0, .ref h1] (kPre D cC cI cZ [(h0, .inr (5, [.int 0, .int 1, .int 1, .int 1, .int 0, .ref h2, .ref h3, .ref h4, .ref h5, .ref h6, .ref h7]))] sz)) (va_Qi (fun (r : Int32) (_ : Unit) => r = 0) (fun _ _ => True) (fun _ => False)) 0 0 (fun _ => False) := by
  refine Met.ofW (cc := cX5_orderOf) (maxL := 6) (ret := (some .int)) (by decide) rfl ?_
  intro p e s m args below meth c s₁ B hml hv
  obtain ⟨rfl, hsz, hP, hK, hD0⟩ := hv
  have hx := B.exec
  have hb := B.bytes
  have hr := B.returns
  have hts := atoms_spec (ws := wsX5_orderOf) B.pre
  have hown : s.vm.findClass RX5 = some m.cls := findClass_of_methodNamed B.named
  have hlocks := B.notSynchronized
  subst hsz
  have hD := hD0
  have hS : va_S (fun _ => False) s.heap s.heap [] := va_S.rf
  have hl := lv_entry ([.ref h0, .ref h1]) (n := 6) (Nat.le_of_ble_eq_true rfl)
  rw [lg_entry_eq]
  generalize (lg_sl ([.ref h0, .ref h1]) ++ List.replicate (6 - (lg_sl ([.ref h0, .ref h1])).length) Slot.unset).toArray = ls at hl ⊢
  have hl : lv_has ls 6 [(0, .ref h0), (1, .ref h1)] := hl
  refine lv_iconst (v := 0) hx hb dX5_orderOf_0 (by decide) ?_
  refine lv_istore_n (lv' := [(2, .int 0), (0, .ref h0), (1, .ref h1)]) hx hb dX5_orderOf_1 rfl hl (by decide) rfl (fun ls hl => ?_)
  refine lv_iconst (v := 0) hx hb dX5_orderOf_2 (by decide) ?_
  refine lv_istore_n (lv' := [(3, .int 0), (2, .int 0), (0, .ref h0), (1, .ref h1)]) hx hb dX5_orderOf_3 rfl hl (by decide) rfl (fun ls hl => ?_)
  refine lv_iload_n hx hb dX5_orderOf_4 rfl (lv_at hl 0 rfl) ?_
  refine lv_aload_n hx hb dX5_orderOf_5 rfl (lv_at hl 2 rfl) ?_
  refine va_get (D := D) (ci := 5) (v := .int 0) (C := RX5) (T := TX5) (N := 11) hx hb hts iw_X5_orderOf_X5 hown hK hP 0 rfl rfl 0 (by decide) (hts (.fieldLink RX5 40 "TopTurned$Space" "plates" "I") (by decide +kernel)) (fun _ h9 => h9) rfl dX5_orderOf_6 ?_
  refine lv_icmp_ge (tgt := 72) hx hb dX5_orderOf_9 (by decide) (fun _ => ?_) (fun c => absurd (by decide) c)
  refine lv_iload_n hx hb dX5_orderOf_72 rfl (lv_at hl 1 rfl) ?_
  exact W.iret (v := 0) hx hb hr (fun t ht hW => ⟨⟨0, (), rfl, rfl, trivial⟩, hS.F ht⟩) hS.2.2 dX5_orderOf_73
set_option maxHeartbeats 4000000 in
set_option maxRecDepth 100000 in
theorem k_X5_sidesOf (l : Launch) (D : va_G) (cC cI cZ : ClassId) (h0 h1 h2 h3 h4 h5 h6 h7 : Nat) (sz : Nat) : Met l yX5_sidesOf wsX5_sidesOf ({ frames := 2, cells := 0, slots := 0, locals := 100 }) (va_Pc [.ref h0, .ref h1] (kPre D cC cI cZ [(h0, .inr (5, [.int 0, .int 1, .int 1, .int 1, .int 0, .ref h2, .ref h3, .ref h4, .ref h5, .ref h6, .ref h7]))] sz)) (va_Qi (fun (r : Int32) (_ : Unit) => r = 0) (fun _ _ => True) (fun _ => False)) 0 0 (fun _ => False) := by
  refine Met.ofW (cc := cX5_sidesOf) (maxL := 4) (ret := (some .int)) (by decide) rfl ?_
  intro p e s m args below meth c s₁ B hml hv
  obtain ⟨rfl, hsz, hP, hK, hD0⟩ := hv
  have hx := B.exec
  have hb := B.bytes
  have hr := B.returns
  have hts := atoms_spec (ws := wsX5_sidesOf) B.pre
  have hown : s.vm.findClass RX5 = some m.cls := findClass_of_methodNamed B.named
  have hlocks := B.notSynchronized
  subst hsz
  have hD := hD0
  have hS : va_S (fun _ => False) s.heap s.heap [] := va_S.rf
  have hl := lv_entry ([.ref h0, .ref h1]) (n := 4) (Nat.le_of_ble_eq_true rfl)
  rw [lg_entry_eq]
  generalize (lg_sl ([.ref h0, .ref h1]) ++ List.replicate (4 - (lg_sl ([.ref h0, .ref h1])).length) Slot.unset).toArray = ls at hl ⊢
  have hl : lv_has ls 4 [(0, .ref h0), (1, .ref h1)] := hl
  refine lv_iconst (v := 0) hx hb dX5_sidesOf_0 (by decide) ?_
  refine lv_istore_n (lv' := [(2, .int 0), (0, .ref h0), (1, .ref h1)]) hx hb dX5_sidesOf_1 rfl hl (by decide) rfl (fun ls hl => ?_)
  refine lv_iconst (v := 0) hx hb dX5_sidesOf_2 (by decide) ?_
  refine lv_istore_n (lv' := [(3, .int 0), (2, .int 0), (0, .ref h0), (1, .ref h1)]) hx hb dX5_sidesOf_3 rfl hl (by decide) rfl (fun ls hl => ?_)
  refine lv_iload_n hx hb dX5_sidesOf_4 rfl (lv_at hl 0 rfl) ?_
  refine lv_aload_n hx hb dX5_sidesOf_5 rfl (lv_at hl 2 rfl) ?_
  refine va_get (D := D) (ci := 5) (v := .int 0) (C := RX5) (T := TX5) (N := 11) hx hb hts iw_X5_sidesOf_X5 hown hK hP 0 rfl rfl 0 (by decide) (hts (.fieldLink RX5 40 "TopTurned$Space" "plates" "I") (by decide +kernel)) (fun _ h9 => h9) rfl dX5_sidesOf_6 ?_
  refine lv_icmp_ge (tgt := 29) hx hb dX5_sidesOf_9 (by decide) (fun _ => ?_) (fun c => absurd (by decide) c)
  refine lv_iload_n hx hb dX5_sidesOf_29 rfl (lv_at hl 1 rfl) ?_
  exact W.iret (v := 0) hx hb hr (fun t ht hW => ⟨⟨0, (), rfl, rfl, trivial⟩, hS.F ht⟩) hS.2.2 dX5_sidesOf_30
set_option maxHeartbeats 4000000 in
set_option maxRecDepth 100000 in
theorem k_X5_stateOf (l : Launch) (D : va_G) (cC cI cZ : ClassId) (h0 h1 h2 h3 h4 h5 h6 h7 : Nat) (sz : Nat) : Met l yX5_stateOf wsX5_stateOf ({ frames := 4, cells := 0, slots := 0, locals := 200 }) (va_Pc [.ref h0, .ref h1] (kPre D cC cI cZ [(h0, .inr (5, [.int 0, .int 1, .int 1, .int 1, .int 0, .ref h2, .ref h3, .ref h4, .ref h5, .ref h6, .ref h7]))] sz)) (va_Qi (fun (r : Int32) (_ : Unit) => r = 0) (fun _ _ => True) (fun _ => False)) 0 0 (fun _ => False) := by
  refine Met.ofW (cc := cX5_stateOf) (maxL := 2) (ret := (some .int)) (by decide) rfl ?_
  intro p e s m args below meth c s₁ B hml hv
  obtain ⟨rfl, hsz, hP, hK, hD0⟩ := hv
  have hx := B.exec
  have hb := B.bytes
  have hr := B.returns
  have hts := atoms_spec (ws := wsX5_stateOf) B.pre
  have hown : s.vm.findClass RX5 = some m.cls := findClass_of_methodNamed B.named
  have hlocks := B.notSynchronized
  subst hsz
  have hD := hD0
  have hS : va_S (fun _ => False) s.heap s.heap [] := va_S.rf
  have hl := lv_entry ([.ref h0, .ref h1]) (n := 2) (Nat.le_of_ble_eq_true rfl)
  rw [lg_entry_eq]
  generalize (lg_sl ([.ref h0, .ref h1]) ++ List.replicate (2 - (lg_sl ([.ref h0, .ref h1])).length) Slot.unset).toArray = ls at hl ⊢
  have hl : lv_has ls 2 [(0, .ref h0), (1, .ref h1)] := hl
  refine lv_aload_n hx hb dX5_stateOf_0 rfl (lv_at hl 0 rfl) ?_
  refine lv_aload_n hx hb dX5_stateOf_1 rfl (lv_at hl 1 rfl) ?_
  have hPc := hP.sub (ws' := [(h0, .inr (5, [.int 0, .int 1, .int 1, .int 1, .int 0, .ref h2, .ref h3, .ref h4, .ref h5, .ref h6, .ref h7]))]) [0] rfl
  have hDc := hD.sub (ws' := [(h0, .inr (5, [.int 0, .int 1, .int 1, .int 1, .int 0, .ref h2, .ref h3, .ref h4, .ref h5, .ref h6, .ref h7]))]) [0] (by decide) rfl
  refine va_calli (va_runV (As := [.ref h1]) (rest := []) ⟨hx, hb, hml, hown, hts⟩ (k_X5_orderOf l D cC cI cZ h0 h1 h2 h3 h4 h5 h6 h7 s.heap.size ) (cwV 1 hts gX5_stateOf_X5_orderOf rfl rfl rfl (by decide +kernel) ⟨(Nat.le_of_ble_eq_true rfl), (Nat.le_of_ble_eq_true rfl)⟩) (kPreV hK hPc hDc (va_recv hK hPc (ci := 5) (q0 := 0) rfl rfl)) rfl rfl hl.1 rfl (lv_room (Nat.le_of_ble_eq_true rfl)) dX5_stateOf_2 ⟨(Nat.le_of_ble_eq_true rfl), (Nat.le_of_ble_eq_true rfl)⟩) hS (fun q _ h => False.elim h) (fun q h => False.elim h) (fun r1 u t H1 locs ht hvm hw hB hz1 hk1 hS => ?_)
  have hP := hP.kept (H1 := H1) (fun k q hk => hk1 q.1 (hP k q hk).lt (fun h => h))
  generalize H1 = H at hP hS ⊢
  have hw : r1 = 0 := hw
  subst hw
  refine lv_aload_n hx hb dX5_stateOf_5 rfl (lv_at hl 0 rfl) ?_
  refine va_get (D := D) (ci := 5) (v := .int 0) (C := RX5) (T := TX5) (N := 11) hx hb hts iw_X5_stateOf_X5 hown hK hP 0 rfl rfl 0 (by decide) (hts (.fieldLink RX5 40 "TopTurned$Space" "plates" "I") (by decide +kernel)) (fun _ h9 => h9) rfl dX5_stateOf_6 ?_
  refine lv_ishl hx hb dX5_stateOf_9 ?_
  refine kt_eq (y := 0) (by decide +kernel) ?_
  refine lv_aload_n hx hb dX5_stateOf_10 rfl (lv_at hl 0 rfl) ?_
  refine lv_aload_n hx hb dX5_stateOf_11 rfl (lv_at hl 1 rfl) ?_
  have hPc := hP.sub (ws' := [(h0, .inr (5, [.int 0, .int 1, .int 1, .int 1, .int 0, .ref h2, .ref h3, .ref h4, .ref h5, .ref h6, .ref h7]))]) [0] rfl
  have hDc := hD.sub (ws' := [(h0, .inr (5, [.int 0, .int 1, .int 1, .int 1, .int 0, .ref h2, .ref h3, .ref h4, .ref h5, .ref h6, .ref h7]))]) [0] (by decide) rfl
  refine va_calli (va_runV (As := [.ref h1]) (rest := [.int 0]) ⟨hx, hb, hml, hown, hts⟩ (k_X5_sidesOf l D cC cI cZ h0 h1 h2 h3 h4 h5 h6 h7 H.size ) (cwV 1 hts gX5_stateOf_X5_sidesOf rfl rfl rfl (by decide +kernel) ⟨(Nat.le_of_ble_eq_true rfl), (Nat.le_of_ble_eq_true rfl)⟩) (kPreV hK hPc hDc (va_recv hK hPc (ci := 5) (q0 := 0) rfl rfl)) rfl rfl hl.1 rfl (lv_room (Nat.le_of_ble_eq_true rfl)) dX5_stateOf_12 ⟨(Nat.le_of_ble_eq_true rfl), (Nat.le_of_ble_eq_true rfl)⟩) hS (fun q _ h => False.elim h) (fun q h => False.elim h) (fun r2 u t H1 locs ht hvm hw hB hz1 hk1 hS => ?_)
  have hP := hP.kept (H1 := H1) (fun k q hk => hk1 q.1 (hP k q hk).lt (fun h => h))
  generalize H1 = H at hP hS ⊢
  have hw : r2 = 0 := hw
  subst hw
  refine lv_ior hx hb dX5_stateOf_15 ?_
  refine kt_eq (y := 0) (by decide +kernel) ?_
  exact W.iret (v := 0) hx hb hr (fun t ht hW => ⟨⟨0, (), rfl, rfl, trivial⟩, hS.F ht⟩) hS.2.2 dX5_stateOf_16
set_option maxHeartbeats 4000000 in
set_option maxRecDepth 100000 in
theorem k_X9_heapState (l : Launch) (D : va_G) (cC cI cZ : ClassId) (h0 h1 h2 h3 h4 h5 h6 h7 h8 h9 h10 h11 h12 h13 h14 h15 h16 h17 h18 h19 h20 h21 h22 h23 : Nat) (sz : Nat) : Met l yX9_heapState wsX9_heapState ({ frames := 6, cells := 0, slots := 0, locals := 300 }) (va_Pc [.ref h0] (kPre D cC cI cZ [(h0, .inr (9, [.ref h1, .ref h3, .ref h4, .int 0, .ref h5, .ref h2, .ref h6, .ref h7, .ref h8, .ref h9, .ref h10, .ref h11])), (h1, .inr (6, [.int 0, .ref h12, .ref h13, .int 0, .int 5, .int 9, .int 0, .int 1, .int 0, .int 0, .ref h14, .ref h15, .int 0, .ref h16, .int 0, .ref h17, .int 0])), (h2, .inr (5, [.int 0, .int 1, .int 1, .int 1, .int 0, .ref h18, .ref h19, .ref h20, .ref h21, .ref h22, .ref h23]))] sz)) (va_Qi (fun (r : Int32) (_ : Unit) => r = 0) (fun _ _ => True) (fun _ => False)) 0 0 (fun _ => False) := by
  refine Met.ofW (cc := cX9_heapState) (maxL := 1) (ret := (some .int)) (by decide) rfl ?_
  intro p e s m args below meth c s₁ B hml hv
  obtain ⟨rfl, hsz, hP, hK, hD0⟩ := hv
  have hx := B.exec
  have hb := B.bytes
  have hr := B.returns
  have hts := atoms_spec (ws := wsX9_heapState) B.pre
  have hown : s.vm.findClass RX9 = some m.cls := findClass_of_methodNamed B.named
  have hlocks := B.notSynchronized
  subst hsz
  have hD := hD0
  have hS : va_S (fun _ => False) s.heap s.heap [] := va_S.rf
  have hl := lv_entry ([.ref h0]) (n := 1) (Nat.le_of_ble_eq_true rfl)
  rw [lg_entry_eq]
  generalize (lg_sl ([.ref h0]) ++ List.replicate (1 - (lg_sl ([.ref h0])).length) Slot.unset).toArray = ls at hl ⊢
  have hl : lv_has ls 1 [(0, .ref h0)] := hl
  refine lv_aload_n hx hb dX9_heapState_0 rfl (lv_at hl 0 rfl) ?_
  refine va_get (D := D) (ci := 9) (v := .ref h2) (C := RX9) (T := TX9) (N := 12) hx hb hts iw_X9_heapState_X9 hown hK hP 0 rfl rfl 5 (by decide) (hts (.fieldLink RX9 38 "TopTurned" "space" "LTopTurned$Space;") (by decide +kernel)) (fun _ h9 => h9) rfl dX9_heapState_1 ?_
  refine lv_aload_n hx hb dX9_heapState_4 rfl (lv_at hl 0 rfl) ?_
  refine va_get (D := D) (ci := 9) (v := .ref h1) (C := RX9) (T := TX9) (N := 12) hx hb hts iw_X9_heapState_X9 hown hK hP 0 rfl rfl 0 (by decide) (hts (.fieldLink RX9 10 "TopTurned" "now" "LTopTurned$Told;") (by decide +kernel)) (fun _ h9 => h9) rfl dX9_heapState_5 ?_
  refine va_get (D := D) (ci := 6) (v := .ref h13) (C := RX6) (T := TX6) (N := 17) hx hb hts iw_X9_heapState_X6 hown hK hP 1 rfl rfl 2 (by decide) (hts (.fieldLink RX9 118 "TopTurned$Told" "heap" "[I") (by decide +kernel)) (fun _ h9 => h9) rfl dX9_heapState_8 ?_
  have hPc := hP.sub (ws' := [(h2, .inr (5, [.int 0, .int 1, .int 1, .int 1, .int 0, .ref h18, .ref h19, .ref h20, .ref h21, .ref h22, .ref h23]))]) [2] rfl
  have hDc := hD.sub (ws' := [(h2, .inr (5, [.int 0, .int 1, .int 1, .int 1, .int 0, .ref h18, .ref h19, .ref h20, .ref h21, .ref h22, .ref h23]))]) [2] (by decide) rfl
  refine va_calli (va_runV (As := [.ref h13]) (rest := []) ⟨hx, hb, hml, hown, hts⟩ (k_X5_stateOf l D cC cI cZ h2 h13 h18 h19 h20 h21 h22 h23 s.heap.size ) (cwV 1 hts gX9_heapState_X5_stateOf rfl rfl rfl (by decide +kernel) ⟨(Nat.le_of_ble_eq_true rfl), (Nat.le_of_ble_eq_true rfl)⟩) (kPreV hK hPc hDc (va_recv hK hPc (ci := 5) (q0 := 0) rfl rfl)) rfl rfl hl.1 rfl (lv_room (Nat.le_of_ble_eq_true rfl)) dX9_heapState_11 ⟨(Nat.le_of_ble_eq_true rfl), (Nat.le_of_ble_eq_true rfl)⟩) hS (fun q _ h => False.elim h) (fun q h => False.elim h) (fun r1 u t H1 locs ht hvm hw hB hz1 hk1 hS => ?_)
  have hP := hP.kept (H1 := H1) (fun k q hk => hk1 q.1 (hP k q hk).lt (fun h => h))
  generalize H1 = H at hP hS ⊢
  have hw : r1 = 0 := hw
  subst hw
  exact W.iret (v := 0) hx hb hr (fun t ht hW => ⟨⟨0, (), rfl, rfl, trivial⟩, hS.F ht⟩) hS.2.2 dX9_heapState_14
set_option maxHeartbeats 4000000 in
set_option maxRecDepth 100000 in
theorem k_X3_arranged (l : Launch) (D : va_G) (cC cI cZ : ClassId) (h0 h1 h2 h3 h4 h5 h6 h7 h8 h9 h10 h11 : Nat) (sz : Nat) : Met l yX3_arranged wsX3_arranged ({ frames := 2, cells := 0, slots := 0, locals := 100 }) (va_Pc [.ref h0, .int 0] (kPre D cC cI cZ [(h0, .inr (3, [.ref h3, .ref h1, .ref h4, .ref h2, .ref h5, .int 0])), (h1, .inr (5, [.int 0, .int 1, .int 1, .int 1, .int 0, .ref h6, .ref h7, .ref h8, .ref h9, .ref h10, .ref h11])), (h2, .inl (cZ, 120, .inl (upd (fun _ => 0) (Int32.toNatClampNeg 0) (vp_nar .boolean 1))))] sz)) (va_Qi (fun (r : Int32) (_ : Unit) => r = 1) (fun _ _ => True) (fun _ => False)) 0 0 (fun _ => False) := by
  refine Met.ofW (cc := cX3_arranged) (maxL := 3) (ret := (some .boolean)) (by decide) rfl ?_
  intro p e s m args below meth c s₁ B hml hv
  obtain ⟨rfl, hsz, hP, hK, hD0⟩ := hv
  have hx := B.exec
  have hb := B.bytes
  have hr := B.returns
  have hts := atoms_spec (ws := wsX3_arranged) B.pre
  have hown : s.vm.findClass RX3 = some m.cls := findClass_of_methodNamed B.named
  have hlocks := B.notSynchronized
  subst hsz
  have hD := hD0
  have hS : va_S (fun _ => False) s.heap s.heap [] := va_S.rf
  have hl := lv_entry ([.ref h0, .int 0]) (n := 3) (Nat.le_of_ble_eq_true rfl)
  rw [lg_entry_eq]
  generalize (lg_sl ([.ref h0, .int 0]) ++ List.replicate (3 - (lg_sl ([.ref h0, .int 0])).length) Slot.unset).toArray = ls at hl ⊢
  have hl : lv_has ls 3 [(0, .ref h0), (1, .int 0)] := hl
  refine lv_iload_n hx hb dX3_arranged_0 rfl (lv_at hl 1 rfl) ?_
  refine lv_aload_n hx hb dX3_arranged_1 rfl (lv_at hl 0 rfl) ?_
  refine va_get (D := D) (ci := 3) (v := .ref h1) (C := RX3) (T := TX3) (N := 6) hx hb hts iw_X3_arranged_X3 hown hK hP 0 rfl rfl 1 (by decide) (hts (.fieldLink RX3 26 "TopTurned$Rules" "space" "LTopTurned$Space;") (by decide +kernel)) (fun _ h9 => h9) rfl dX3_arranged_2 ?_
  refine va_get (D := D) (ci := 5) (v := .int 1) (C := RX5) (T := TX5) (N := 11) hx hb hts iw_X3_arranged_X5 hown hK hP 1 rfl rfl 2 (by decide) (hts (.fieldLink RX3 94 "TopTurned$Space" "sides" "I") (by decide +kernel)) (fun _ h9 => h9) rfl dX3_arranged_5 ?_
  refine lv_iconst (v := 1) hx hb dX3_arranged_8 (by decide) ?_
  refine lv_isub hx hb dX3_arranged_9 ?_
  refine kt_eq (y := 0) (by decide +kernel) ?_
  refine lv_iand hx hb dX3_arranged_10 ?_
  refine kt_eq (y := 0) (by decide +kernel) ?_
  refine lv_if_ne (tgt := 18) hx hb dX3_arranged_11 (by decide) (fun c => absurd (by decide) c) (fun _ => ?_)
  refine lv_iconst (v := 1) hx hb dX3_arranged_14 (by decide) ?_
  refine lv_goto (tgt := 19) hx hb dX3_arranged_15 (by decide) ?_
  refine lv_istore_n (lv' := [(2, .int 1), (0, .ref h0), (1, .int 0)]) hx hb dX3_arranged_19 rfl hl (by decide) rfl (fun ls hl => ?_)
  refine lv_aload_n hx hb dX3_arranged_20 rfl (lv_at hl 1 rfl) ?_
  refine va_get (D := D) (ci := 3) (v := .ref h2) (C := RX3) (T := TX3) (N := 6) hx hb hts iw_X3_arranged_X3 hown hK hP 0 rfl rfl 3 (by decide) (hts (.fieldLink RX3 15 "TopTurned$Rules" "sorted" "[Z") (by decide +kernel)) (fun _ h9 => h9) rfl dX3_arranged_21 ?_
  refine lv_iload_n hx hb dX3_arranged_24 rfl (lv_at hl 2 rfl) ?_
  refine lv_aload_n hx hb dX3_arranged_25 rfl (lv_at hl 1 rfl) ?_
  refine va_get (D := D) (ci := 3) (v := .ref h1) (C := RX3) (T := TX3) (N := 6) hx hb hts iw_X3_arranged_X3 hown hK hP 0 rfl rfl 1 (by decide) (hts (.fieldLink RX3 26 "TopTurned$Rules" "space" "LTopTurned$Space;") (by decide +kernel)) (fun _ h9 => h9) rfl dX3_arranged_26 ?_
  refine va_get (D := D) (ci := 5) (v := .int 0) (C := RX5) (T := TX5) (N := 11) hx hb hts iw_X3_arranged_X5 hown hK hP 1 rfl rfl 0 (by decide) (hts (.fieldLink RX3 67 "TopTurned$Space" "plates" "I") (by decide +kernel)) (fun _ h9 => h9) rfl dX3_arranged_29 ?_
  refine lv_ishr hx hb dX3_arranged_32 ?_
  refine kt_eq (y := 0) (by decide +kernel) ?_
  refine va_zald (i := 0) hx hb hK hP 2 2 rfl rfl (vp_in_iff.mpr (by decide)) dX3_arranged_33 ?_
  refine kt_eq (y := 1) (by decide +kernel) ?_
  refine lv_if_eq (tgt := 55) hx hb dX3_arranged_34 (by decide) (fun c => absurd c (by decide)) (fun _ => ?_)
  refine lv_iload_n hx hb dX3_arranged_37 rfl (lv_at hl 0 rfl) ?_
  refine lv_if_ne (tgt := 51) hx hb dX3_arranged_38 (by decide) (fun _ => ?_) (fun c => absurd c (by decide))
  refine lv_iconst (v := 1) hx hb dX3_arranged_51 (by decide) ?_
  refine lv_goto (tgt := 56) hx hb dX3_arranged_52 (by decide) ?_
  exact W.zret (v := 1) hx hb hr rfl (fun t ht hW => ⟨⟨1, (), rfl, rfl, trivial⟩, hS.F ht⟩) hS.2.2 dX3_arranged_56
