set_option maxHeartbeats 4000000 in
set_option maxRecDepth 100000 in
theorem k_X9_next (l : Launch) (D : va_G) (cC cI cZ : ClassId) (h0 h1 h2 h3 h4 h5 h6 h7 h8 h9 h10 h11 h12 h13 h14 h15 h16 h17 h18 h19 h20 h21 h22 h23 h24 h25 h26 : Nat) (sz : Nat) (p1 : Int32) : Met l yX9_next wsX9_next ({ frames := 8, cells := 0, slots := 0, locals := 400 }) (va_Pc [.ref h0, .int p1] (kPre D cC cI cZ [(h0, .inr (9, [.ref h2, .ref h7, .ref h8, .int 0, .ref h9, .ref h3, .ref h5, .ref h10, .ref h11, .ref h4, .ref h12, .ref h1])), (h1, .inl (cI, 7, .inl (fun _ => 0))), (h2, .inr (6, [.int 0, .ref h13, .ref h14, .int 0, .int 5, .int 9, .int 0, .int 1, .int 0, .int 0, .ref h15, .ref h16, .int 0, .ref h17, .int 0, .ref h18, .int 0])), (h3, .inr (5, [.int 0, .int 1, .int 1, .int 1, .int 0, .ref h19, .ref h20, .ref h21, .ref h22, .ref h23, .ref h24])), (h4, .inr (7, [.ref h3, .ref h5, .ref h10])), (h5, .inr (3, [.ref h2, .ref h3, .ref h25, .ref h6, .ref h26, .int 0])), (h6, .inl (cZ, 120, .inl (upd (fun _ => 0) (Int32.toNatClampNeg 0) (vp_nar .boolean 1))))] sz)) (va_Qi (fun (r : Int32) (_ : Unit) => r = (if p1 < 0 then (-2) else (if p1 < 5 then (-9) else (-2)))) (fun _ _ => True) (va_A [(h0, .inr (9, [.ref h2, .ref h7, .ref h8, .int 0, .ref h9, .ref h3, .ref h5, .ref h10, .ref h11, .ref h4, .ref h12, .ref h1])), (h1, .inl (cI, 7, .inl (fun _ => 0))), (h2, .inr (6, [.int 0, .ref h13, .ref h14, .int 0, .int 5, .int 9, .int 0, .int 1, .int 0, .int 0, .ref h15, .ref h16, .int 0, .ref h17, .int 0, .ref h18, .int 0])), (h3, .inr (5, [.int 0, .int 1, .int 1, .int 1, .int 0, .ref h19, .ref h20, .ref h21, .ref h22, .ref h23, .ref h24])), (h4, .inr (7, [.ref h3, .ref h5, .ref h10])), (h5, .inr (3, [.ref h2, .ref h3, .ref h25, .ref h6, .ref h26, .int 0])), (h6, .inl (cZ, 120, .inl (upd (fun _ => 0) (Int32.toNatClampNeg 0) (vp_nar .boolean 1))))] sz)) 0 0 (va_A [(h0, .inr (9, [.ref h2, .ref h7, .ref h8, .int 0, .ref h9, .ref h3, .ref h5, .ref h10, .ref h11, .ref h4, .ref h12, .ref h1])), (h1, .inl (cI, 7, .inl (fun _ => 0))), (h2, .inr (6, [.int 0, .ref h13, .ref h14, .int 0, .int 5, .int 9, .int 0, .int 1, .int 0, .int 0, .ref h15, .ref h16, .int 0, .ref h17, .int 0, .ref h18, .int 0])), (h3, .inr (5, [.int 0, .int 1, .int 1, .int 1, .int 0, .ref h19, .ref h20, .ref h21, .ref h22, .ref h23, .ref h24])), (h4, .inr (7, [.ref h3, .ref h5, .ref h10])), (h5, .inr (3, [.ref h2, .ref h3, .ref h25, .ref h6, .ref h26, .int 0])), (h6, .inl (cZ, 120, .inl (upd (fun _ => 0) (Int32.toNatClampNeg 0) (vp_nar .boolean 1))))] sz) := by
  refine Met.ofW (cc := cX9_next) (maxL := 3) (ret := (some .int)) (by decide) rfl ?_
  intro p e s m args below meth c s₁ B hml hv
  obtain ⟨rfl, hsz, hP, hK, hD0⟩ := hv
  have hx := B.exec
  have hb := B.bytes
  have hr := B.returns
  have hts := atoms_spec (ws := wsX9_next) B.pre
  have hown : s.vm.findClass RX9 = some m.cls := findClass_of_methodNamed B.named
  have hlocks := B.notSynchronized
  subst hsz
  have hD := hD0.self (sz := s.heap.size)
  generalize hAe : va_A [(h0, .inr (9, [.ref h2, .ref h7, .ref h8, .int 0, .ref h9, .ref h3, .ref h5, .ref h10, .ref h11, .ref h4, .ref h12, .ref h1])), (h1, .inl (cI, 7, .inl (fun _ => 0))), (h2, .inr (6, [.int 0, .ref h13, .ref h14, .int 0, .int 5, .int 9, .int 0, .int 1, .int 0, .int 0, .ref h15, .ref h16, .int 0, .ref h17, .int 0, .ref h18, .int 0])), (h3, .inr (5, [.int 0, .int 1, .int 1, .int 1, .int 0, .ref h19, .ref h20, .ref h21, .ref h22, .ref h23, .ref h24])), (h4, .inr (7, [.ref h3, .ref h5, .ref h10])), (h5, .inr (3, [.ref h2, .ref h3, .ref h25, .ref h6, .ref h26, .int 0])), (h6, .inl (cZ, 120, .inl (upd (fun _ => 0) (Int32.toNatClampNeg 0) (vp_nar .boolean 1))))] s.heap.size = A at hD ⊢
  have hA : ∀ q : Nat, s.heap.size ≤ q → A q := fun q h => by rw [← hAe]; exact Or.inr h
  have hS : va_S A s.heap s.heap [] := va_S.rf
  have hl := lv_entry ([.ref h0, .int p1]) (n := 3) (Nat.le_of_ble_eq_true rfl)
  rw [lg_entry_eq]
  generalize (lg_sl ([.ref h0, .int p1]) ++ List.replicate (3 - (lg_sl ([.ref h0, .int p1])).length) Slot.unset).toArray = ls at hl ⊢
  have hl : lv_has ls 3 [(0, .ref h0), (1, .int p1)] := hl
  refine lv_iload_n hx hb dX9_next_0 rfl (lv_at hl 1 rfl) ?_
  refine lv_if_lt (tgt := 9) hx hb dX9_next_1 (by decide) (fun c1 => ?_) (fun c1 => ?_)
  · refine lv_aload_n hx hb dX9_next_9 rfl (lv_at hl 0 rfl) ?_
    refine lv_bipush (v := (-2)) hx hb dX9_next_10 (by decide) ?_
    have hPc := hP.sub (ws' := [(h0, .inr (9, [.ref h2, .ref h7, .ref h8, .int 0, .ref h9, .ref h3, .ref h5, .ref h10, .ref h11, .ref h4, .ref h12, .ref h1])), (h1, .inl (cI, 7, .inl (fun _ => 0)))]) [0, 1] rfl
    have hDc := hD.sub (ws' := [(h0, .inr (9, [.ref h2, .ref h7, .ref h8, .int 0, .ref h9, .ref h3, .ref h5, .ref h10, .ref h11, .ref h4, .ref h12, .ref h1])), (h1, .inl (cI, 7, .inl (fun _ => 0)))]) [0, 1] (by decide) rfl
    have hFc := va_free (wc := [(h0, .inr (9, [.ref h2, .ref h7, .ref h8, .int 0, .ref h9, .ref h3, .ref h5, .ref h10, .ref h11, .ref h4, .ref h12, .ref h1])), (h1, .inl (cI, 7, .inl (fun _ => 0)))]) hD hS hA [0, 1] rfl
    refine va_calli (va_runV (As := [.int (-2)]) (rest := []) ⟨hx, hb, hml, hown, hts⟩ (k_X9_refuse_3 l D cC cI cZ h0 h1 h2 h7 h8 h9 h3 h5 h10 h11 h4 h12 s.heap.size ) (cwV 1 hts gX9_next_X9_refuse rfl rfl rfl (by decide +kernel) ⟨(Nat.le_of_ble_eq_true rfl), (Nat.le_of_ble_eq_true rfl)⟩) (kPreV hK hPc hDc (va_recv hK hPc (ci := 9) (q0 := 0) rfl rfl)) rfl rfl hl.1 rfl (lv_room (Nat.le_of_ble_eq_true rfl)) dX9_next_12 ⟨(Nat.le_of_ble_eq_true rfl), (Nat.le_of_ble_eq_true rfl)⟩) hS (fun q _ h => hFc q h) hFc (fun r2 u t H1 locs ht hvm hw hB hz1 hk1 hS => ?_)
    obtain ⟨hP1, hD1⟩ := hB
    rw [ht] at hP1
    obtain ⟨hP, hD⟩ := va_join (wr := [(h2, .inr (6, [.int 0, .ref h13, .ref h14, .int 0, .int 5, .int 9, .int 0, .int 1, .int 0, .int 0, .ref h15, .ref h16, .int 0, .ref h17, .int 0, .ref h18, .int 0])), (h3, .inr (5, [.int 0, .int 1, .int 1, .int 1, .int 0, .ref h19, .ref h20, .ref h21, .ref h22, .ref h23, .ref h24])), (h4, .inr (7, [.ref h3, .ref h5, .ref h10])), (h5, .inr (3, [.ref h2, .ref h3, .ref h25, .ref h6, .ref h26, .int 0])), (h6, .inl (cZ, 120, .inl (upd (fun _ => 0) (Int32.toNatClampNeg 0) (vp_nar .boolean 1))))]) (w1 := [(h0, .inr (9, [.ref h2, .ref h7, .ref h8, .int 0, .ref h9, .ref h3, .ref h5, .ref h10, .ref h11, .ref h4, .ref h12, .ref h1])), (h1, .inl (cI, 7, .inl (upd (fun _ => 0) (Int32.toNatClampNeg 2) 1)))]) hP hD [0, 1] [2, 3, 4, 5, 6] rfl rfl (by decide) (by decide) hk1 hFc hP1 hD1
    generalize H1 = H at hP hS ⊢
    have hP : va_P D vwCl [(h2, .inr (6, [.int 0, .ref h13, .ref h14, .int 0, .int 5, .int 9, .int 0, .int 1, .int 0, .int 0, .ref h15, .ref h16, .int 0, .ref h17, .int 0, .ref h18, .int 0])), (h3, .inr (5, [.int 0, .int 1, .int 1, .int 1, .int 0, .ref h19, .ref h20, .ref h21, .ref h22, .ref h23, .ref h24])), (h4, .inr (7, [.ref h3, .ref h5, .ref h10])), (h5, .inr (3, [.ref h2, .ref h3, .ref h25, .ref h6, .ref h26, .int 0])), (h6, .inl (cZ, 120, .inl (upd (fun _ => 0) (Int32.toNatClampNeg 0) (vp_nar .boolean 1)))), (h0, .inr (9, [.ref h2, .ref h7, .ref h8, .int 0, .ref h9, .ref h3, .ref h5, .ref h10, .ref h11, .ref h4, .ref h12, .ref h1])), (h1, .inl (cI, 7, .inl (upd (fun _ => 0) (Int32.toNatClampNeg 2) 1)))] H := hP
    have hD : va_D A [(h2, .inr (6, [.int 0, .ref h13, .ref h14, .int 0, .int 5, .int 9, .int 0, .int 1, .int 0, .int 0, .ref h15, .ref h16, .int 0, .ref h17, .int 0, .ref h18, .int 0])), (h3, .inr (5, [.int 0, .int 1, .int 1, .int 1, .int 0, .ref h19, .ref h20, .ref h21, .ref h22, .ref h23, .ref h24])), (h4, .inr (7, [.ref h3, .ref h5, .ref h10])), (h5, .inr (3, [.ref h2, .ref h3, .ref h25, .ref h6, .ref h26, .int 0])), (h6, .inl (cZ, 120, .inl (upd (fun _ => 0) (Int32.toNatClampNeg 0) (vp_nar .boolean 1)))), (h0, .inr (9, [.ref h2, .ref h7, .ref h8, .int 0, .ref h9, .ref h3, .ref h5, .ref h10, .ref h11, .ref h4, .ref h12, .ref h1])), (h1, .inl (cI, 7, .inl (upd (fun _ => 0) (Int32.toNatClampNeg 2) 1)))] := hD
    have hw : r2 = (-2) := hw
    subst hw
    refine W.widen (k := 0) (n := 0) (Nat.le_of_ble_eq_true rfl) (Nat.le_of_ble_eq_true rfl) ?_
    exact W.iret (v := (-2)) hx hb hr (fun t ht hW => ⟨⟨(-2), (), rfl, (by rw [if_pos c1]), trivial⟩, hS.F ht⟩) hS.2.2 dX9_next_15
  · refine lv_iload_n hx hb dX9_next_4 rfl (lv_at hl 1 rfl) ?_
    refine lv_iconst (v := 5) hx hb dX9_next_5 (by decide) ?_
    refine lv_icmp_lt (tgt := 16) hx hb dX9_next_6 (by decide) (fun c3 => ?_) (fun c3 => ?_)
    · refine lv_aload_n hx hb dX9_next_16 rfl (lv_at hl 0 rfl) ?_
      refine va_get (D := D) (ci := 9) (v := .ref h4) (C := RX9) (T := TX9) (N := 12) hx hb hts iw_X9_next_X9 hown hK hP 0 rfl rfl 9 (by decide) (hts (.fieldLink RX9 77 "TopTurned" "waiters" "LTopTurned$Waiters;") (by decide +kernel)) (fun _ h9 => h9) rfl dX9_next_17 ?_
      refine lv_iload_n hx hb dX9_next_20 rfl (lv_at hl 1 rfl) ?_
      refine lv_aload_n hx hb dX9_next_21 rfl (lv_at hl 0 rfl) ?_
      have hPc := hP.sub (ws' := [(h0, .inr (9, [.ref h2, .ref h7, .ref h8, .int 0, .ref h9, .ref h3, .ref h5, .ref h10, .ref h11, .ref h4, .ref h12, .ref h1])), (h2, .inr (6, [.int 0, .ref h13, .ref h14, .int 0, .int 5, .int 9, .int 0, .int 1, .int 0, .int 0, .ref h15, .ref h16, .int 0, .ref h17, .int 0, .ref h18, .int 0])), (h3, .inr (5, [.int 0, .int 1, .int 1, .int 1, .int 0, .ref h19, .ref h20, .ref h21, .ref h22, .ref h23, .ref h24]))]) [0, 2, 3] rfl
      have hDc := hD.sub (ws' := [(h0, .inr (9, [.ref h2, .ref h7, .ref h8, .int 0, .ref h9, .ref h3, .ref h5, .ref h10, .ref h11, .ref h4, .ref h12, .ref h1])), (h2, .inr (6, [.int 0, .ref h13, .ref h14, .int 0, .int 5, .int 9, .int 0, .int 1, .int 0, .int 0, .ref h15, .ref h16, .int 0, .ref h17, .int 0, .ref h18, .int 0])), (h3, .inr (5, [.int 0, .int 1, .int 1, .int 1, .int 0, .ref h19, .ref h20, .ref h21, .ref h22, .ref h23, .ref h24]))]) [0, 2, 3] (by decide) rfl
      refine va_calli (va_runV (As := []) (rest := [.int p1, .ref h4]) ⟨hx, hb, hml, hown, hts⟩ (k_X9_heapState l D cC cI cZ h0 h2 h3 h7 h8 h9 h5 h10 h11 h4 h12 h1 h13 h14 h15 h16 h17 h18 h19 h20 h21 h22 h23 h24 s.heap.size ) (cwV 0 hts gX9_next_X9_heapState rfl rfl rfl (by decide +kernel) ⟨(Nat.le_of_ble_eq_true rfl), (Nat.le_of_ble_eq_true rfl)⟩) (kPreV hK hPc hDc (va_recv hK hPc (ci := 9) (q0 := 0) rfl rfl)) rfl rfl hl.1 rfl (lv_room (Nat.le_of_ble_eq_true rfl)) dX9_next_22 ⟨(Nat.le_of_ble_eq_true rfl), (Nat.le_of_ble_eq_true rfl)⟩) hS (fun q _ h => False.elim h) (fun q h => False.elim h) (fun r4 u t H1 locs ht hvm hw hB hz1 hk1 hS => ?_)
      have hP := hP.kept (H1 := H1) (fun k q hk => hk1 q.1 (hP k q hk).lt (fun h => h))
      generalize H1 = H at hP hS ⊢
      have hw : r4 = 0 := hw
      subst hw
      have hPc := hP.sub (ws' := [(h4, .inr (7, [.ref h3, .ref h5, .ref h10])), (h5, .inr (3, [.ref h2, .ref h3, .ref h25, .ref h6, .ref h26, .int 0])), (h3, .inr (5, [.int 0, .int 1, .int 1, .int 1, .int 0, .ref h19, .ref h20, .ref h21, .ref h22, .ref h23, .ref h24])), (h6, .inl (cZ, 120, .inl (upd (fun _ => 0) (Int32.toNatClampNeg 0) (vp_nar .boolean 1))))]) [4, 5, 3, 6] rfl
      have hDc := hD.sub (ws' := [(h4, .inr (7, [.ref h3, .ref h5, .ref h10])), (h5, .inr (3, [.ref h2, .ref h3, .ref h25, .ref h6, .ref h26, .int 0])), (h3, .inr (5, [.int 0, .int 1, .int 1, .int 1, .int 0, .ref h19, .ref h20, .ref h21, .ref h22, .ref h23, .ref h24])), (h6, .inl (cZ, 120, .inl (upd (fun _ => 0) (Int32.toNatClampNeg 0) (vp_nar .boolean 1))))]) [4, 5, 3, 6] (by decide) rfl
      refine va_calli (va_runV (As := [.int p1, .int 0]) (rest := []) ⟨hx, hb, hml, hown, hts⟩ (k_X7_advise l D cC cI cZ h4 h5 h3 h6 h10 h2 h25 h26 h19 h20 h21 h22 h23 h24 H.size p1) (cwV 2 hts gX9_next_X7_advise rfl rfl rfl (by decide +kernel) ⟨(Nat.le_of_ble_eq_true rfl), (Nat.le_of_ble_eq_true rfl)⟩) (kPreV hK hPc hDc (va_recv hK hPc (ci := 7) (q0 := 0) rfl rfl)) rfl rfl hl.1 rfl (lv_room (Nat.le_of_ble_eq_true rfl)) dX9_next_25 ⟨(Nat.le_of_ble_eq_true rfl), (Nat.le_of_ble_eq_true rfl)⟩) hS (fun q _ h => False.elim h) (fun q h => False.elim h) (fun r5 u t H1 locs ht hvm hw hB hz1 hk1 hS => ?_)
      have hP := hP.kept (H1 := H1) (fun k q hk => hk1 q.1 (hP k q hk).lt (fun h => h))
      generalize H1 = H at hP hS ⊢
      have hw : r5 = (-1) := hw
      subst hw
      refine lv_istore_n (lv' := [(2, .int (-1)), (0, .ref h0), (1, .int p1)]) hx hb dX9_next_28 rfl hl (by decide) rfl (fun ls hl => ?_)
      refine lv_iload_n hx hb dX9_next_29 rfl (lv_at hl 0 rfl) ?_
      refine lv_if_ge (tgt := 38) hx hb dX9_next_30 (by decide) (fun c => absurd c (by decide)) (fun _ => ?_)
      refine lv_bipush (v := (-9)) hx hb dX9_next_33 (by decide) ?_
      refine lv_goto (tgt := 46) hx hb dX9_next_35 (by decide) ?_
      refine W.widen (k := 0) (n := 0) (Nat.le_of_ble_eq_true rfl) (Nat.le_of_ble_eq_true rfl) ?_
      exact W.iret (v := (-9)) hx hb hr (fun t ht hW => ⟨⟨(-9), (), rfl, (by rw [if_neg c1, if_pos c3]), trivial⟩, hS.F ht⟩) hS.2.2 dX9_next_46
    · refine lv_aload_n hx hb dX9_next_9 rfl (lv_at hl 0 rfl) ?_
      refine lv_bipush (v := (-2)) hx hb dX9_next_10 (by decide) ?_
      have hPc := hP.sub (ws' := [(h0, .inr (9, [.ref h2, .ref h7, .ref h8, .int 0, .ref h9, .ref h3, .ref h5, .ref h10, .ref h11, .ref h4, .ref h12, .ref h1])), (h1, .inl (cI, 7, .inl (fun _ => 0)))]) [0, 1] rfl
      have hDc := hD.sub (ws' := [(h0, .inr (9, [.ref h2, .ref h7, .ref h8, .int 0, .ref h9, .ref h3, .ref h5, .ref h10, .ref h11, .ref h4, .ref h12, .ref h1])), (h1, .inl (cI, 7, .inl (fun _ => 0)))]) [0, 1] (by decide) rfl
      have hFc := va_free (wc := [(h0, .inr (9, [.ref h2, .ref h7, .ref h8, .int 0, .ref h9, .ref h3, .ref h5, .ref h10, .ref h11, .ref h4, .ref h12, .ref h1])), (h1, .inl (cI, 7, .inl (fun _ => 0)))]) hD hS hA [0, 1] rfl
      refine va_calli (va_runV (As := [.int (-2)]) (rest := []) ⟨hx, hb, hml, hown, hts⟩ (k_X9_refuse_3 l D cC cI cZ h0 h1 h2 h7 h8 h9 h3 h5 h10 h11 h4 h12 s.heap.size ) (cwV 1 hts gX9_next_X9_refuse rfl rfl rfl (by decide +kernel) ⟨(Nat.le_of_ble_eq_true rfl), (Nat.le_of_ble_eq_true rfl)⟩) (kPreV hK hPc hDc (va_recv hK hPc (ci := 9) (q0 := 0) rfl rfl)) rfl rfl hl.1 rfl (lv_room (Nat.le_of_ble_eq_true rfl)) dX9_next_12 ⟨(Nat.le_of_ble_eq_true rfl), (Nat.le_of_ble_eq_true rfl)⟩) hS (fun q _ h => hFc q h) hFc (fun r6 u t H1 locs ht hvm hw hB hz1 hk1 hS => ?_)
      obtain ⟨hP1, hD1⟩ := hB
      rw [ht] at hP1
      obtain ⟨hP, hD⟩ := va_join (wr := [(h2, .inr (6, [.int 0, .ref h13, .ref h14, .int 0, .int 5, .int 9, .int 0, .int 1, .int 0, .int 0, .ref h15, .ref h16, .int 0, .ref h17, .int 0, .ref h18, .int 0])), (h3, .inr (5, [.int 0, .int 1, .int 1, .int 1, .int 0, .ref h19, .ref h20, .ref h21, .ref h22, .ref h23, .ref h24])), (h4, .inr (7, [.ref h3, .ref h5, .ref h10])), (h5, .inr (3, [.ref h2, .ref h3, .ref h25, .ref h6, .ref h26, .int 0])), (h6, .inl (cZ, 120, .inl (upd (fun _ => 0) (Int32.toNatClampNeg 0) (vp_nar .boolean 1))))]) (w1 := [(h0, .inr (9, [.ref h2, .ref h7, .ref h8, .int 0, .ref h9, .ref h3, .ref h5, .ref h10, .ref h11, .ref h4, .ref h12, .ref h1])), (h1, .inl (cI, 7, .inl (upd (fun _ => 0) (Int32.toNatClampNeg 2) 1)))]) hP hD [0, 1] [2, 3, 4, 5, 6] rfl rfl (by decide) (by decide) hk1 hFc hP1 hD1
      generalize H1 = H at hP hS ⊢
      have hP : va_P D vwCl [(h2, .inr (6, [.int 0, .ref h13, .ref h14, .int 0, .int 5, .int 9, .int 0, .int 1, .int 0, .int 0, .ref h15, .ref h16, .int 0, .ref h17, .int 0, .ref h18, .int 0])), (h3, .inr (5, [.int 0, .int 1, .int 1, .int 1, .int 0, .ref h19, .ref h20, .ref h21, .ref h22, .ref h23, .ref h24])), (h4, .inr (7, [.ref h3, .ref h5, .ref h10])), (h5, .inr (3, [.ref h2, .ref h3, .ref h25, .ref h6, .ref h26, .int 0])), (h6, .inl (cZ, 120, .inl (upd (fun _ => 0) (Int32.toNatClampNeg 0) (vp_nar .boolean 1)))), (h0, .inr (9, [.ref h2, .ref h7, .ref h8, .int 0, .ref h9, .ref h3, .ref h5, .ref h10, .ref h11, .ref h4, .ref h12, .ref h1])), (h1, .inl (cI, 7, .inl (upd (fun _ => 0) (Int32.toNatClampNeg 2) 1)))] H := hP
      have hD : va_D A [(h2, .inr (6, [.int 0, .ref h13, .ref h14, .int 0, .int 5, .int 9, .int 0, .int 1, .int 0, .int 0, .ref h15, .ref h16, .int 0, .ref h17, .int 0, .ref h18, .int 0])), (h3, .inr (5, [.int 0, .int 1, .int 1, .int 1, .int 0, .ref h19, .ref h20, .ref h21, .ref h22, .ref h23, .ref h24])), (h4, .inr (7, [.ref h3, .ref h5, .ref h10])), (h5, .inr (3, [.ref h2, .ref h3, .ref h25, .ref h6, .ref h26, .int 0])), (h6, .inl (cZ, 120, .inl (upd (fun _ => 0) (Int32.toNatClampNeg 0) (vp_nar .boolean 1)))), (h0, .inr (9, [.ref h2, .ref h7, .ref h8, .int 0, .ref h9, .ref h3, .ref h5, .ref h10, .ref h11, .ref h4, .ref h12, .ref h1])), (h1, .inl (cI, 7, .inl (upd (fun _ => 0) (Int32.toNatClampNeg 2) 1)))] := hD
      have hw : r6 = (-2) := hw
      subst hw
      refine W.widen (k := 0) (n := 0) (Nat.le_of_ble_eq_true rfl) (Nat.le_of_ble_eq_true rfl) ?_
      exact W.iret (v := (-2)) hx hb hr (fun t ht hW => ⟨⟨(-2), (), rfl, (by rw [if_neg c1, if_neg c3]), trivial⟩, hS.F ht⟩) hS.2.2 dX9_next_15
set_option maxHeartbeats 4000000 in
set_option maxRecDepth 100000 in
theorem k_X7_turnsMade (l : Launch) (D : va_G) (cC cI cZ : ClassId) (h0 h1 h2 h3 h4 h5 h6 h7 h8 h9 h10 h11 h12 h13 : Nat) (sz : Nat) (p1 : Int32) : Met l yX7_turnsMade wsX7_turnsMade ({ frames := 4, cells := 0, slots := 0, locals := 200 }) (va_Pc [.ref h0, .int p1, .int 0] (kPre D cC cI cZ [(h0, .inr (7, [.ref h2, .ref h1, .ref h4])), (h1, .inr (3, [.ref h5, .ref h2, .ref h6, .ref h3, .ref h7, .int 0])), (h2, .inr (5, [.int 0, .int 1, .int 1, .int 1, .int 0, .ref h8, .ref h9, .ref h10, .ref h11, .ref h12, .ref h13])), (h3, .inl (cZ, 120, .inl (upd (fun _ => 0) (Int32.toNatClampNeg 0) (vp_nar .boolean 1))))] sz)) (va_Qi (fun (r : Int32) (_ : Unit) => r = 0) (fun _ _ => True) (fun _ => False)) 0 0 (fun _ => False) := by
  refine Met.ofW (cc := cX7_turnsMade) (maxL := 6) (ret := (some .int)) (by decide) rfl ?_
  intro p e s m args below meth c s₁ B hml hv
  obtain ⟨rfl, hsz, hP, hK, hD0⟩ := hv
  have hx := B.exec
  have hb := B.bytes
  have hr := B.returns
  have hts := atoms_spec (ws := wsX7_turnsMade) B.pre
  have hown : s.vm.findClass RX7 = some m.cls := findClass_of_methodNamed B.named
  have hlocks := B.notSynchronized
  subst hsz
  have hD := hD0
  have hS : va_S (fun _ => False) s.heap s.heap [] := va_S.rf
  have hl := lv_entry ([.ref h0, .int p1, .int 0]) (n := 6) (Nat.le_of_ble_eq_true rfl)
  rw [lg_entry_eq]
  generalize (lg_sl ([.ref h0, .int p1, .int 0]) ++ List.replicate (6 - (lg_sl ([.ref h0, .int p1, .int 0])).length) Slot.unset).toArray = ls at hl ⊢
  have hl : lv_has ls 6 [(0, .ref h0), (1, .int p1), (2, .int 0)] := hl
  refine lv_iload_n hx hb dX7_turnsMade_0 rfl (lv_at hl 2 rfl) ?_
  refine lv_istore_n (lv' := [(3, .int 0), (0, .ref h0), (1, .int p1), (2, .int 0)]) hx hb dX7_turnsMade_1 rfl hl (by decide) rfl (fun ls hl => ?_)
  refine lv_iconst (v := 0) hx hb dX7_turnsMade_2 (by decide) ?_
  refine lv_istore (lv' := [(4, .int 0), (3, .int 0), (0, .ref h0), (1, .int p1), (2, .int 0)]) hx hb dX7_turnsMade_3 hl (by decide) rfl (fun ls hl => ?_)
  refine lv_iload hx hb dX7_turnsMade_5 (lv_at hl 0 rfl) ?_
  refine lv_bipush (v := 40) hx hb dX7_turnsMade_7 (by decide) ?_
  refine lv_icmp_gt (tgt := 58) hx hb dX7_turnsMade_9 (by decide) (fun c => absurd c (by decide)) (fun _ => ?_)
  refine lv_aload_n hx hb dX7_turnsMade_12 rfl (lv_at hl 2 rfl) ?_
  refine va_get (D := D) (ci := 7) (v := .ref h1) (C := RX7) (T := TX7) (N := 3) hx hb hts iw_X7_turnsMade_X7 hown hK hP 0 rfl rfl 1 (by decide) (hts (.fieldLink RX7 15 "TopTurned$Waiters" "rules" "LTopTurned$Rules;") (by decide +kernel)) (fun _ h9 => h9) rfl dX7_turnsMade_13 ?_
  refine lv_iload_n hx hb dX7_turnsMade_16 rfl (lv_at hl 1 rfl) ?_
  have hPc := hP.sub (ws' := [(h1, .inr (3, [.ref h5, .ref h2, .ref h6, .ref h3, .ref h7, .int 0])), (h2, .inr (5, [.int 0, .int 1, .int 1, .int 1, .int 0, .ref h8, .ref h9, .ref h10, .ref h11, .ref h12, .ref h13])), (h3, .inl (cZ, 120, .inl (upd (fun _ => 0) (Int32.toNatClampNeg 0) (vp_nar .boolean 1))))]) [1, 2, 3] rfl
  have hDc := hD.sub (ws' := [(h1, .inr (3, [.ref h5, .ref h2, .ref h6, .ref h3, .ref h7, .int 0])), (h2, .inr (5, [.int 0, .int 1, .int 1, .int 1, .int 0, .ref h8, .ref h9, .ref h10, .ref h11, .ref h12, .ref h13])), (h3, .inl (cZ, 120, .inl (upd (fun _ => 0) (Int32.toNatClampNeg 0) (vp_nar .boolean 1))))]) [1, 2, 3] (by decide) rfl
  refine va_calli (va_runV (As := [.int 0]) (rest := []) ⟨hx, hb, hml, hown, hts⟩ (k_X3_arranged l D cC cI cZ h1 h2 h3 h5 h6 h7 h8 h9 h10 h11 h12 h13 s.heap.size ) (cwV 1 hts gX7_turnsMade_X3_arranged rfl rfl rfl (by decide +kernel) ⟨(Nat.le_of_ble_eq_true rfl), (Nat.le_of_ble_eq_true rfl)⟩) (kPreV hK hPc hDc (va_recv hK hPc (ci := 3) (q0 := 0) rfl rfl)) rfl rfl hl.1 rfl (lv_room (Nat.le_of_ble_eq_true rfl)) dX7_turnsMade_17 ⟨(Nat.le_of_ble_eq_true rfl), (Nat.le_of_ble_eq_true rfl)⟩) hS (fun q _ h => False.elim h) (fun q h => False.elim h) (fun r1 u t H1 locs ht hvm hw hB hz1 hk1 hS => ?_)
  have hP := hP.kept (H1 := H1) (fun k q hk => hk1 q.1 (hP k q hk).lt (fun h => h))
  generalize H1 = H at hP hS ⊢
  have hw : r1 = 1 := hw
  subst hw
  refine lv_if_eq (tgt := 26) hx hb dX7_turnsMade_20 (by decide) (fun c => absurd c (by decide)) (fun _ => ?_)
  refine lv_iload hx hb dX7_turnsMade_23 (lv_at hl 0 rfl) ?_
  exact W.iret (v := 0) hx hb hr (fun t ht hW => ⟨⟨0, (), rfl, rfl, trivial⟩, hS.F ht⟩) hS.2.2 dX7_turnsMade_25
set_option maxHeartbeats 4000000 in
set_option maxRecDepth 100000 in
theorem k_X9_rule (l : Launch) (D : va_G) (cC cI cZ : ClassId) (h0 h1 h2 h3 h4 h5 h6 h7 h8 h9 h10 h11 h12 h13 h14 h15 h16 h17 h18 h19 h20 h21 h22 h23 h24 h25 h26 : Nat) (sz : Nat) (p1 : Int32) : Met l yX9_rule wsX9_rule ({ frames := 8, cells := 0, slots := 0, locals := 400 }) (va_Pc [.ref h0, .int p1] (kPre D cC cI cZ [(h0, .inr (9, [.ref h2, .ref h7, .ref h8, .int 0, .ref h9, .ref h3, .ref h5, .ref h10, .ref h11, .ref h4, .ref h12, .ref h1])), (h1, .inl (cI, 7, .inl (fun _ => 0))), (h2, .inr (6, [.int 0, .ref h13, .ref h14, .int 0, .int 5, .int 9, .int 0, .int 1, .int 0, .int 0, .ref h15, .ref h16, .int 0, .ref h17, .int 0, .ref h18, .int 0])), (h3, .inr (5, [.int 0, .int 1, .int 1, .int 1, .int 0, .ref h19, .ref h20, .ref h21, .ref h22, .ref h23, .ref h24])), (h4, .inr (7, [.ref h3, .ref h5, .ref h10])), (h5, .inr (3, [.ref h2, .ref h3, .ref h25, .ref h6, .ref h26, .int 0])), (h6, .inl (cZ, 120, .inl (upd (fun _ => 0) (Int32.toNatClampNeg 0) (vp_nar .boolean 1))))] sz)) (va_Qi (fun (r : Int32) (_ : Unit) => r = (if p1 < 0 then (-2) else (if p1 < 5 then 0 else (-2)))) (fun _ _ => True) (va_A [(h0, .inr (9, [.ref h2, .ref h7, .ref h8, .int 0, .ref h9, .ref h3, .ref h5, .ref h10, .ref h11, .ref h4, .ref h12, .ref h1])), (h1, .inl (cI, 7, .inl (fun _ => 0))), (h2, .inr (6, [.int 0, .ref h13, .ref h14, .int 0, .int 5, .int 9, .int 0, .int 1, .int 0, .int 0, .ref h15, .ref h16, .int 0, .ref h17, .int 0, .ref h18, .int 0])), (h3, .inr (5, [.int 0, .int 1, .int 1, .int 1, .int 0, .ref h19, .ref h20, .ref h21, .ref h22, .ref h23, .ref h24])), (h4, .inr (7, [.ref h3, .ref h5, .ref h10])), (h5, .inr (3, [.ref h2, .ref h3, .ref h25, .ref h6, .ref h26, .int 0])), (h6, .inl (cZ, 120, .inl (upd (fun _ => 0) (Int32.toNatClampNeg 0) (vp_nar .boolean 1))))] sz)) 0 0 (va_A [(h0, .inr (9, [.ref h2, .ref h7, .ref h8, .int 0, .ref h9, .ref h3, .ref h5, .ref h10, .ref h11, .ref h4, .ref h12, .ref h1])), (h1, .inl (cI, 7, .inl (fun _ => 0))), (h2, .inr (6, [.int 0, .ref h13, .ref h14, .int 0, .int 5, .int 9, .int 0, .int 1, .int 0, .int 0, .ref h15, .ref h16, .int 0, .ref h17, .int 0, .ref h18, .int 0])), (h3, .inr (5, [.int 0, .int 1, .int 1, .int 1, .int 0, .ref h19, .ref h20, .ref h21, .ref h22, .ref h23, .ref h24])), (h4, .inr (7, [.ref h3, .ref h5, .ref h10])), (h5, .inr (3, [.ref h2, .ref h3, .ref h25, .ref h6, .ref h26, .int 0])), (h6, .inl (cZ, 120, .inl (upd (fun _ => 0) (Int32.toNatClampNeg 0) (vp_nar .boolean 1))))] sz) := by
  refine Met.ofW (cc := cX9_rule) (maxL := 2) (ret := (some .int)) (by decide) rfl ?_
  intro p e s m args below meth c s₁ B hml hv
  obtain ⟨rfl, hsz, hP, hK, hD0⟩ := hv
  have hx := B.exec
  have hb := B.bytes
  have hr := B.returns
  have hts := atoms_spec (ws := wsX9_rule) B.pre
  have hown : s.vm.findClass RX9 = some m.cls := findClass_of_methodNamed B.named
  have hlocks := B.notSynchronized
  subst hsz
  have hD := hD0.self (sz := s.heap.size)
  generalize hAe : va_A [(h0, .inr (9, [.ref h2, .ref h7, .ref h8, .int 0, .ref h9, .ref h3, .ref h5, .ref h10, .ref h11, .ref h4, .ref h12, .ref h1])), (h1, .inl (cI, 7, .inl (fun _ => 0))), (h2, .inr (6, [.int 0, .ref h13, .ref h14, .int 0, .int 5, .int 9, .int 0, .int 1, .int 0, .int 0, .ref h15, .ref h16, .int 0, .ref h17, .int 0, .ref h18, .int 0])), (h3, .inr (5, [.int 0, .int 1, .int 1, .int 1, .int 0, .ref h19, .ref h20, .ref h21, .ref h22, .ref h23, .ref h24])), (h4, .inr (7, [.ref h3, .ref h5, .ref h10])), (h5, .inr (3, [.ref h2, .ref h3, .ref h25, .ref h6, .ref h26, .int 0])), (h6, .inl (cZ, 120, .inl (upd (fun _ => 0) (Int32.toNatClampNeg 0) (vp_nar .boolean 1))))] s.heap.size = A at hD ⊢
  have hA : ∀ q : Nat, s.heap.size ≤ q → A q := fun q h => by rw [← hAe]; exact Or.inr h
  have hS : va_S A s.heap s.heap [] := va_S.rf
  have hl := lv_entry ([.ref h0, .int p1]) (n := 2) (Nat.le_of_ble_eq_true rfl)
  rw [lg_entry_eq]
  generalize (lg_sl ([.ref h0, .int p1]) ++ List.replicate (2 - (lg_sl ([.ref h0, .int p1])).length) Slot.unset).toArray = ls at hl ⊢
  have hl : lv_has ls 2 [(0, .ref h0), (1, .int p1)] := hl
  refine lv_iload_n hx hb dX9_rule_0 rfl (lv_at hl 1 rfl) ?_
  refine lv_if_lt (tgt := 9) hx hb dX9_rule_1 (by decide) (fun c1 => ?_) (fun c1 => ?_)
  · refine lv_aload_n hx hb dX9_rule_9 rfl (lv_at hl 0 rfl) ?_
    refine lv_bipush (v := (-2)) hx hb dX9_rule_10 (by decide) ?_
    have hPc := hP.sub (ws' := [(h0, .inr (9, [.ref h2, .ref h7, .ref h8, .int 0, .ref h9, .ref h3, .ref h5, .ref h10, .ref h11, .ref h4, .ref h12, .ref h1])), (h1, .inl (cI, 7, .inl (fun _ => 0)))]) [0, 1] rfl
    have hDc := hD.sub (ws' := [(h0, .inr (9, [.ref h2, .ref h7, .ref h8, .int 0, .ref h9, .ref h3, .ref h5, .ref h10, .ref h11, .ref h4, .ref h12, .ref h1])), (h1, .inl (cI, 7, .inl (fun _ => 0)))]) [0, 1] (by decide) rfl
    have hFc := va_free (wc := [(h0, .inr (9, [.ref h2, .ref h7, .ref h8, .int 0, .ref h9, .ref h3, .ref h5, .ref h10, .ref h11, .ref h4, .ref h12, .ref h1])), (h1, .inl (cI, 7, .inl (fun _ => 0)))]) hD hS hA [0, 1] rfl
    refine va_calli (va_runV (As := [.int (-2)]) (rest := []) ⟨hx, hb, hml, hown, hts⟩ (k_X9_refuse_3 l D cC cI cZ h0 h1 h2 h7 h8 h9 h3 h5 h10 h11 h4 h12 s.heap.size ) (cwV 1 hts gX9_rule_X9_refuse rfl rfl rfl (by decide +kernel) ⟨(Nat.le_of_ble_eq_true rfl), (Nat.le_of_ble_eq_true rfl)⟩) (kPreV hK hPc hDc (va_recv hK hPc (ci := 9) (q0 := 0) rfl rfl)) rfl rfl hl.1 rfl (lv_room (Nat.le_of_ble_eq_true rfl)) dX9_rule_12 ⟨(Nat.le_of_ble_eq_true rfl), (Nat.le_of_ble_eq_true rfl)⟩) hS (fun q _ h => hFc q h) hFc (fun r2 u t H1 locs ht hvm hw hB hz1 hk1 hS => ?_)
    obtain ⟨hP1, hD1⟩ := hB
    rw [ht] at hP1
    obtain ⟨hP, hD⟩ := va_join (wr := [(h2, .inr (6, [.int 0, .ref h13, .ref h14, .int 0, .int 5, .int 9, .int 0, .int 1, .int 0, .int 0, .ref h15, .ref h16, .int 0, .ref h17, .int 0, .ref h18, .int 0])), (h3, .inr (5, [.int 0, .int 1, .int 1, .int 1, .int 0, .ref h19, .ref h20, .ref h21, .ref h22, .ref h23, .ref h24])), (h4, .inr (7, [.ref h3, .ref h5, .ref h10])), (h5, .inr (3, [.ref h2, .ref h3, .ref h25, .ref h6, .ref h26, .int 0])), (h6, .inl (cZ, 120, .inl (upd (fun _ => 0) (Int32.toNatClampNeg 0) (vp_nar .boolean 1))))]) (w1 := [(h0, .inr (9, [.ref h2, .ref h7, .ref h8, .int 0, .ref h9, .ref h3, .ref h5, .ref h10, .ref h11, .ref h4, .ref h12, .ref h1])), (h1, .inl (cI, 7, .inl (upd (fun _ => 0) (Int32.toNatClampNeg 2) 1)))]) hP hD [0, 1] [2, 3, 4, 5, 6] rfl rfl (by decide) (by decide) hk1 hFc hP1 hD1
    generalize H1 = H at hP hS ⊢
    have hP : va_P D vwCl [(h2, .inr (6, [.int 0, .ref h13, .ref h14, .int 0, .int 5, .int 9, .int 0, .int 1, .int 0, .int 0, .ref h15, .ref h16, .int 0, .ref h17, .int 0, .ref h18, .int 0])), (h3, .inr (5, [.int 0, .int 1, .int 1, .int 1, .int 0, .ref h19, .ref h20, .ref h21, .ref h22, .ref h23, .ref h24])), (h4, .inr (7, [.ref h3, .ref h5, .ref h10])), (h5, .inr (3, [.ref h2, .ref h3, .ref h25, .ref h6, .ref h26, .int 0])), (h6, .inl (cZ, 120, .inl (upd (fun _ => 0) (Int32.toNatClampNeg 0) (vp_nar .boolean 1)))), (h0, .inr (9, [.ref h2, .ref h7, .ref h8, .int 0, .ref h9, .ref h3, .ref h5, .ref h10, .ref h11, .ref h4, .ref h12, .ref h1])), (h1, .inl (cI, 7, .inl (upd (fun _ => 0) (Int32.toNatClampNeg 2) 1)))] H := hP
    have hD : va_D A [(h2, .inr (6, [.int 0, .ref h13, .ref h14, .int 0, .int 5, .int 9, .int 0, .int 1, .int 0, .int 0, .ref h15, .ref h16, .int 0, .ref h17, .int 0, .ref h18, .int 0])), (h3, .inr (5, [.int 0, .int 1, .int 1, .int 1, .int 0, .ref h19, .ref h20, .ref h21, .ref h22, .ref h23, .ref h24])), (h4, .inr (7, [.ref h3, .ref h5, .ref h10])), (h5, .inr (3, [.ref h2, .ref h3, .ref h25, .ref h6, .ref h26, .int 0])), (h6, .inl (cZ, 120, .inl (upd (fun _ => 0) (Int32.toNatClampNeg 0) (vp_nar .boolean 1)))), (h0, .inr (9, [.ref h2, .ref h7, .ref h8, .int 0, .ref h9, .ref h3, .ref h5, .ref h10, .ref h11, .ref h4, .ref h12, .ref h1])), (h1, .inl (cI, 7, .inl (upd (fun _ => 0) (Int32.toNatClampNeg 2) 1)))] := hD
    have hw : r2 = (-2) := hw
    subst hw
    refine W.widen (k := 0) (n := 0) (Nat.le_of_ble_eq_true rfl) (Nat.le_of_ble_eq_true rfl) ?_
    exact W.iret (v := (-2)) hx hb hr (fun t ht hW => ⟨⟨(-2), (), rfl, (by rw [if_pos c1]), trivial⟩, hS.F ht⟩) hS.2.2 dX9_rule_15
  · refine lv_iload_n hx hb dX9_rule_4 rfl (lv_at hl 1 rfl) ?_
    refine lv_iconst (v := 5) hx hb dX9_rule_5 (by decide) ?_
    refine lv_icmp_lt (tgt := 16) hx hb dX9_rule_6 (by decide) (fun c3 => ?_) (fun c3 => ?_)
    · refine lv_aload_n hx hb dX9_rule_16 rfl (lv_at hl 0 rfl) ?_
      refine va_get (D := D) (ci := 9) (v := .ref h4) (C := RX9) (T := TX9) (N := 12) hx hb hts iw_X9_rule_X9 hown hK hP 0 rfl rfl 9 (by decide) (hts (.fieldLink RX9 77 "TopTurned" "waiters" "LTopTurned$Waiters;") (by decide +kernel)) (fun _ h9 => h9) rfl dX9_rule_17 ?_
      refine lv_iload_n hx hb dX9_rule_20 rfl (lv_at hl 1 rfl) ?_
      refine lv_aload_n hx hb dX9_rule_21 rfl (lv_at hl 0 rfl) ?_
      have hPc := hP.sub (ws' := [(h0, .inr (9, [.ref h2, .ref h7, .ref h8, .int 0, .ref h9, .ref h3, .ref h5, .ref h10, .ref h11, .ref h4, .ref h12, .ref h1])), (h2, .inr (6, [.int 0, .ref h13, .ref h14, .int 0, .int 5, .int 9, .int 0, .int 1, .int 0, .int 0, .ref h15, .ref h16, .int 0, .ref h17, .int 0, .ref h18, .int 0])), (h3, .inr (5, [.int 0, .int 1, .int 1, .int 1, .int 0, .ref h19, .ref h20, .ref h21, .ref h22, .ref h23, .ref h24]))]) [0, 2, 3] rfl
      have hDc := hD.sub (ws' := [(h0, .inr (9, [.ref h2, .ref h7, .ref h8, .int 0, .ref h9, .ref h3, .ref h5, .ref h10, .ref h11, .ref h4, .ref h12, .ref h1])), (h2, .inr (6, [.int 0, .ref h13, .ref h14, .int 0, .int 5, .int 9, .int 0, .int 1, .int 0, .int 0, .ref h15, .ref h16, .int 0, .ref h17, .int 0, .ref h18, .int 0])), (h3, .inr (5, [.int 0, .int 1, .int 1, .int 1, .int 0, .ref h19, .ref h20, .ref h21, .ref h22, .ref h23, .ref h24]))]) [0, 2, 3] (by decide) rfl
      refine va_calli (va_runV (As := []) (rest := [.int p1, .ref h4]) ⟨hx, hb, hml, hown, hts⟩ (k_X9_heapState l D cC cI cZ h0 h2 h3 h7 h8 h9 h5 h10 h11 h4 h12 h1 h13 h14 h15 h16 h17 h18 h19 h20 h21 h22 h23 h24 s.heap.size ) (cwV 0 hts gX9_rule_X9_heapState rfl rfl rfl (by decide +kernel) ⟨(Nat.le_of_ble_eq_true rfl), (Nat.le_of_ble_eq_true rfl)⟩) (kPreV hK hPc hDc (va_recv hK hPc (ci := 9) (q0 := 0) rfl rfl)) rfl rfl hl.1 rfl (lv_room (Nat.le_of_ble_eq_true rfl)) dX9_rule_22 ⟨(Nat.le_of_ble_eq_true rfl), (Nat.le_of_ble_eq_true rfl)⟩) hS (fun q _ h => False.elim h) (fun q h => False.elim h) (fun r4 u t H1 locs ht hvm hw hB hz1 hk1 hS => ?_)
      have hP := hP.kept (H1 := H1) (fun k q hk => hk1 q.1 (hP k q hk).lt (fun h => h))
      generalize H1 = H at hP hS ⊢
      have hw : r4 = 0 := hw
      subst hw
      have hPc := hP.sub (ws' := [(h4, .inr (7, [.ref h3, .ref h5, .ref h10])), (h5, .inr (3, [.ref h2, .ref h3, .ref h25, .ref h6, .ref h26, .int 0])), (h3, .inr (5, [.int 0, .int 1, .int 1, .int 1, .int 0, .ref h19, .ref h20, .ref h21, .ref h22, .ref h23, .ref h24])), (h6, .inl (cZ, 120, .inl (upd (fun _ => 0) (Int32.toNatClampNeg 0) (vp_nar .boolean 1))))]) [4, 5, 3, 6] rfl
      have hDc := hD.sub (ws' := [(h4, .inr (7, [.ref h3, .ref h5, .ref h10])), (h5, .inr (3, [.ref h2, .ref h3, .ref h25, .ref h6, .ref h26, .int 0])), (h3, .inr (5, [.int 0, .int 1, .int 1, .int 1, .int 0, .ref h19, .ref h20, .ref h21, .ref h22, .ref h23, .ref h24])), (h6, .inl (cZ, 120, .inl (upd (fun _ => 0) (Int32.toNatClampNeg 0) (vp_nar .boolean 1))))]) [4, 5, 3, 6] (by decide) rfl
      refine va_calli (va_runV (As := [.int p1, .int 0]) (rest := []) ⟨hx, hb, hml, hown, hts⟩ (k_X7_turnsMade l D cC cI cZ h4 h5 h3 h6 h10 h2 h25 h26 h19 h20 h21 h22 h23 h24 H.size p1) (cwV 2 hts gX9_rule_X7_turnsMade rfl rfl rfl (by decide +kernel) ⟨(Nat.le_of_ble_eq_true rfl), (Nat.le_of_ble_eq_true rfl)⟩) (kPreV hK hPc hDc (va_recv hK hPc (ci := 7) (q0 := 0) rfl rfl)) rfl rfl hl.1 rfl (lv_room (Nat.le_of_ble_eq_true rfl)) dX9_rule_25 ⟨(Nat.le_of_ble_eq_true rfl), (Nat.le_of_ble_eq_true rfl)⟩) hS (fun q _ h => False.elim h) (fun q h => False.elim h) (fun r5 u t H1 locs ht hvm hw hB hz1 hk1 hS => ?_)
      have hP := hP.kept (H1 := H1) (fun k q hk => hk1 q.1 (hP k q hk).lt (fun h => h))
      generalize H1 = H at hP hS ⊢
      have hw : r5 = 0 := hw
      subst hw
      have hPc := hP.sub (ws' := []) [] rfl
      have hDc := hD.sub (ws' := []) [] (by decide) rfl
      refine va_calli (va_runS (As := [.int 0]) (rest := []) ⟨hx, hb, hml, hown, hts⟩ (k_X9_orNone l D cC cI cZ  H.size ) (va_cwS 1 hts gX9_rule_X9_orNone rfl rfl rfl (by decide +kernel) ⟨(Nat.le_of_ble_eq_true rfl), (Nat.le_of_ble_eq_true rfl)⟩) (kPreS hK hPc hDc) rfl rfl hl.1 rfl (lv_room (Nat.le_of_ble_eq_true rfl)) dX9_rule_28 ⟨(Nat.le_of_ble_eq_true rfl), (Nat.le_of_ble_eq_true rfl)⟩) hS (fun q _ h => False.elim h) (fun q h => False.elim h) (fun r6 u t H1 locs ht hvm hw hB hz1 hk1 hS => ?_)
      have hP := hP.kept (H1 := H1) (fun k q hk => hk1 q.1 (hP k q hk).lt (fun h => h))
      generalize H1 = H at hP hS ⊢
      have hw : r6 = 0 := hw
      subst hw
      refine W.widen (k := 0) (n := 0) (Nat.le_of_ble_eq_true rfl) (Nat.le_of_ble_eq_true rfl) ?_
      exact W.iret (v := 0) hx hb hr (fun t ht hW => ⟨⟨0, (), rfl, (by rw [if_neg c1, if_pos c3]), trivial⟩, hS.F ht⟩) hS.2.2 dX9_rule_31
    · refine lv_aload_n hx hb dX9_rule_9 rfl (lv_at hl 0 rfl) ?_
      refine lv_bipush (v := (-2)) hx hb dX9_rule_10 (by decide) ?_
      have hPc := hP.sub (ws' := [(h0, .inr (9, [.ref h2, .ref h7, .ref h8, .int 0, .ref h9, .ref h3, .ref h5, .ref h10, .ref h11, .ref h4, .ref h12, .ref h1])), (h1, .inl (cI, 7, .inl (fun _ => 0)))]) [0, 1] rfl
      have hDc := hD.sub (ws' := [(h0, .inr (9, [.ref h2, .ref h7, .ref h8, .int 0, .ref h9, .ref h3, .ref h5, .ref h10, .ref h11, .ref h4, .ref h12, .ref h1])), (h1, .inl (cI, 7, .inl (fun _ => 0)))]) [0, 1] (by decide) rfl
      have hFc := va_free (wc := [(h0, .inr (9, [.ref h2, .ref h7, .ref h8, .int 0, .ref h9, .ref h3, .ref h5, .ref h10, .ref h11, .ref h4, .ref h12, .ref h1])), (h1, .inl (cI, 7, .inl (fun _ => 0)))]) hD hS hA [0, 1] rfl
      refine va_calli (va_runV (As := [.int (-2)]) (rest := []) ⟨hx, hb, hml, hown, hts⟩ (k_X9_refuse_3 l D cC cI cZ h0 h1 h2 h7 h8 h9 h3 h5 h10 h11 h4 h12 s.heap.size ) (cwV 1 hts gX9_rule_X9_refuse rfl rfl rfl (by decide +kernel) ⟨(Nat.le_of_ble_eq_true rfl), (Nat.le_of_ble_eq_true rfl)⟩) (kPreV hK hPc hDc (va_recv hK hPc (ci := 9) (q0 := 0) rfl rfl)) rfl rfl hl.1 rfl (lv_room (Nat.le_of_ble_eq_true rfl)) dX9_rule_12 ⟨(Nat.le_of_ble_eq_true rfl), (Nat.le_of_ble_eq_true rfl)⟩) hS (fun q _ h => hFc q h) hFc (fun r7 u t H1 locs ht hvm hw hB hz1 hk1 hS => ?_)
      obtain ⟨hP1, hD1⟩ := hB
      rw [ht] at hP1
      obtain ⟨hP, hD⟩ := va_join (wr := [(h2, .inr (6, [.int 0, .ref h13, .ref h14, .int 0, .int 5, .int 9, .int 0, .int 1, .int 0, .int 0, .ref h15, .ref h16, .int 0, .ref h17, .int 0, .ref h18, .int 0])), (h3, .inr (5, [.int 0, .int 1, .int 1, .int 1, .int 0, .ref h19, .ref h20, .ref h21, .ref h22, .ref h23, .ref h24])), (h4, .inr (7, [.ref h3, .ref h5, .ref h10])), (h5, .inr (3, [.ref h2, .ref h3, .ref h25, .ref h6, .ref h26, .int 0])), (h6, .inl (cZ, 120, .inl (upd (fun _ => 0) (Int32.toNatClampNeg 0) (vp_nar .boolean 1))))]) (w1 := [(h0, .inr (9, [.ref h2, .ref h7, .ref h8, .int 0, .ref h9, .ref h3, .ref h5, .ref h10, .ref h11, .ref h4, .ref h12, .ref h1])), (h1, .inl (cI, 7, .inl (upd (fun _ => 0) (Int32.toNatClampNeg 2) 1)))]) hP hD [0, 1] [2, 3, 4, 5, 6] rfl rfl (by decide) (by decide) hk1 hFc hP1 hD1
      generalize H1 = H at hP hS ⊢
      have hP : va_P D vwCl [(h2, .inr (6, [.int 0, .ref h13, .ref h14, .int 0, .int 5, .int 9, .int 0, .int 1, .int 0, .int 0, .ref h15, .ref h16, .int 0, .ref h17, .int 0, .ref h18, .int 0])), (h3, .inr (5, [.int 0, .int 1, .int 1, .int 1, .int 0, .ref h19, .ref h20, .ref h21, .ref h22, .ref h23, .ref h24])), (h4, .inr (7, [.ref h3, .ref h5, .ref h10])), (h5, .inr (3, [.ref h2, .ref h3, .ref h25, .ref h6, .ref h26, .int 0])), (h6, .inl (cZ, 120, .inl (upd (fun _ => 0) (Int32.toNatClampNeg 0) (vp_nar .boolean 1)))), (h0, .inr (9, [.ref h2, .ref h7, .ref h8, .int 0, .ref h9, .ref h3, .ref h5, .ref h10, .ref h11, .ref h4, .ref h12, .ref h1])), (h1, .inl (cI, 7, .inl (upd (fun _ => 0) (Int32.toNatClampNeg 2) 1)))] H := hP
      have hD : va_D A [(h2, .inr (6, [.int 0, .ref h13, .ref h14, .int 0, .int 5, .int 9, .int 0, .int 1, .int 0, .int 0, .ref h15, .ref h16, .int 0, .ref h17, .int 0, .ref h18, .int 0])), (h3, .inr (5, [.int 0, .int 1, .int 1, .int 1, .int 0, .ref h19, .ref h20, .ref h21, .ref h22, .ref h23, .ref h24])), (h4, .inr (7, [.ref h3, .ref h5, .ref h10])), (h5, .inr (3, [.ref h2, .ref h3, .ref h25, .ref h6, .ref h26, .int 0])), (h6, .inl (cZ, 120, .inl (upd (fun _ => 0) (Int32.toNatClampNeg 0) (vp_nar .boolean 1)))), (h0, .inr (9, [.ref h2, .ref h7, .ref h8, .int 0, .ref h9, .ref h3, .ref h5, .ref h10, .ref h11, .ref h4, .ref h12, .ref h1])), (h1, .inl (cI, 7, .inl (upd (fun _ => 0) (Int32.toNatClampNeg 2) 1)))] := hD
      have hw : r7 = (-2) := hw
      subst hw
      refine W.widen (k := 0) (n := 0) (Nat.le_of_ble_eq_true rfl) (Nat.le_of_ble_eq_true rfl) ?_
      exact W.iret (v := (-2)) hx hb hr (fun t ht hW => ⟨⟨(-2), (), rfl, (by rw [if_neg c1, if_neg c3]), trivial⟩, hS.F ht⟩) hS.2.2 dX9_rule_15
set_option maxHeartbeats 4000000 in
set_option maxRecDepth 100000 in
theorem k_X9_row (l : Launch) (D : va_G) (cC cI cZ : ClassId) (h0 h1 h2 h3 h4 h5 h6 h7 h8 h9 h10 h11 h12 h13 h14 h15 h16 h17 : Nat) (sz : Nat) (p1 : Int32) : Met l yX9_row wsX9_row ({ frames := 4, cells := 0, slots := 0, locals := 200 }) (va_Pc [.ref h0, .int p1] (kPre D cC cI cZ [(h0, .inr (9, [.ref h2, .ref h4, .ref h5, .int 0, .ref h6, .ref h7, .ref h8, .ref h9, .ref h10, .ref h11, .ref h12, .ref h1])), (h1, .inl (cI, 7, .inl (fun _ => 0))), (h2, .inr (6, [.int 0, .ref h13, .ref h14, .int 0, .int 5, .int 9, .int 0, .int 1, .int 0, .int 0, .ref h15, .ref h16, .int 0, .ref h17, .int 0, .ref h3, .int 0])), (h3, .inl (cI, 8, .inl (fun _ => 0)))] sz)) (va_Qi (fun (r : Int32) (_ : Unit) => r = (if 0 ≤ p1 then (if 99 < p1 then (-6) else 1) else (-4))) (fun _ _ => True) (va_A [(h0, .inr (9, [.ref h2, .ref h4, .ref h5, .int 0, .ref h6, .ref h7, .ref h8, .ref h9, .ref h10, .ref h11, .ref h12, .ref h1])), (h1, .inl (cI, 7, .inl (fun _ => 0))), (h2, .inr (6, [.int 0, .ref h13, .ref h14, .int 0, .int 5, .int 9, .int 0, .int 1, .int 0, .int 0, .ref h15, .ref h16, .int 0, .ref h17, .int 0, .ref h3, .int 0])), (h3, .inl (cI, 8, .inl (fun _ => 0)))] sz)) 0 0 (va_A [(h0, .inr (9, [.ref h2, .ref h4, .ref h5, .int 0, .ref h6, .ref h7, .ref h8, .ref h9, .ref h10, .ref h11, .ref h12, .ref h1])), (h1, .inl (cI, 7, .inl (fun _ => 0))), (h2, .inr (6, [.int 0, .ref h13, .ref h14, .int 0, .int 5, .int 9, .int 0, .int 1, .int 0, .int 0, .ref h15, .ref h16, .int 0, .ref h17, .int 0, .ref h3, .int 0])), (h3, .inl (cI, 8, .inl (fun _ => 0)))] sz) := by
  refine Met.ofW (cc := cX9_row) (maxL := 2) (ret := (some .int)) (by decide) rfl ?_
  intro p e s m args below meth c s₁ B hml hv
  obtain ⟨rfl, hsz, hP, hK, hD0⟩ := hv
  have hx := B.exec
  have hb := B.bytes
  have hr := B.returns
  have hts := atoms_spec (ws := wsX9_row) B.pre
  have hown : s.vm.findClass RX9 = some m.cls := findClass_of_methodNamed B.named
  have hlocks := B.notSynchronized
  subst hsz
  have hD := hD0.self (sz := s.heap.size)
  generalize hAe : va_A [(h0, .inr (9, [.ref h2, .ref h4, .ref h5, .int 0, .ref h6, .ref h7, .ref h8, .ref h9, .ref h10, .ref h11, .ref h12, .ref h1])), (h1, .inl (cI, 7, .inl (fun _ => 0))), (h2, .inr (6, [.int 0, .ref h13, .ref h14, .int 0, .int 5, .int 9, .int 0, .int 1, .int 0, .int 0, .ref h15, .ref h16, .int 0, .ref h17, .int 0, .ref h3, .int 0])), (h3, .inl (cI, 8, .inl (fun _ => 0)))] s.heap.size = A at hD ⊢
  have hA : ∀ q : Nat, s.heap.size ≤ q → A q := fun q h => by rw [← hAe]; exact Or.inr h
  have hS : va_S A s.heap s.heap [] := va_S.rf
  have hl := lv_entry ([.ref h0, .int p1]) (n := 2) (Nat.le_of_ble_eq_true rfl)
  rw [lg_entry_eq]
  generalize (lg_sl ([.ref h0, .int p1]) ++ List.replicate (2 - (lg_sl ([.ref h0, .int p1])).length) Slot.unset).toArray = ls at hl ⊢
  have hl : lv_has ls 2 [(0, .ref h0), (1, .int p1)] := hl
  refine lv_iload_n hx hb dX9_row_0 rfl (lv_at hl 1 rfl) ?_
  refine lv_if_ge (tgt := 11) hx hb dX9_row_1 (by decide) (fun c1 => ?_) (fun c1 => ?_)
  · refine lv_iload_n hx hb dX9_row_11 rfl (lv_at hl 1 rfl) ?_
    refine lv_bipush (v := 99) hx hb dX9_row_12 (by decide) ?_
    refine lv_icmp_gt (tgt := 29) hx hb dX9_row_14 (by decide) (fun c2 => ?_) (fun c2 => ?_)
    · refine lv_aload_n hx hb dX9_row_29 rfl (lv_at hl 0 rfl) ?_
      refine lv_bipush (v := (-6)) hx hb dX9_row_30 (by decide) ?_
      have hPc := hP.sub (ws' := [(h0, .inr (9, [.ref h2, .ref h4, .ref h5, .int 0, .ref h6, .ref h7, .ref h8, .ref h9, .ref h10, .ref h11, .ref h12, .ref h1])), (h1, .inl (cI, 7, .inl (fun _ => 0)))]) [0, 1] rfl
      have hDc := hD.sub (ws' := [(h0, .inr (9, [.ref h2, .ref h4, .ref h5, .int 0, .ref h6, .ref h7, .ref h8, .ref h9, .ref h10, .ref h11, .ref h12, .ref h1])), (h1, .inl (cI, 7, .inl (fun _ => 0)))]) [0, 1] (by decide) rfl
      have hFc := va_free (wc := [(h0, .inr (9, [.ref h2, .ref h4, .ref h5, .int 0, .ref h6, .ref h7, .ref h8, .ref h9, .ref h10, .ref h11, .ref h12, .ref h1])), (h1, .inl (cI, 7, .inl (fun _ => 0)))]) hD hS hA [0, 1] rfl
      refine va_calli (va_runV (As := [.int (-6)]) (rest := []) ⟨hx, hb, hml, hown, hts⟩ (k_X9_refuse l D cC cI cZ h0 h1 h2 h4 h5 h6 h7 h8 h9 h10 h11 h12 s.heap.size ) (cwV 1 hts gX9_row_X9_refuse rfl rfl rfl (by decide +kernel) ⟨(Nat.le_of_ble_eq_true rfl), (Nat.le_of_ble_eq_true rfl)⟩) (kPreV hK hPc hDc (va_recv hK hPc (ci := 9) (q0 := 0) rfl rfl)) rfl rfl hl.1 rfl (lv_room (Nat.le_of_ble_eq_true rfl)) dX9_row_32 ⟨(Nat.le_of_ble_eq_true rfl), (Nat.le_of_ble_eq_true rfl)⟩) hS (fun q _ h => hFc q h) hFc (fun r3 u t H1 locs ht hvm hw hB hz1 hk1 hS => ?_)
      obtain ⟨hP1, hD1⟩ := hB
      rw [ht] at hP1
      obtain ⟨hP, hD⟩ := va_join (wr := [(h2, .inr (6, [.int 0, .ref h13, .ref h14, .int 0, .int 5, .int 9, .int 0, .int 1, .int 0, .int 0, .ref h15, .ref h16, .int 0, .ref h17, .int 0, .ref h3, .int 0])), (h3, .inl (cI, 8, .inl (fun _ => 0)))]) (w1 := [(h0, .inr (9, [.ref h2, .ref h4, .ref h5, .int 0, .ref h6, .ref h7, .ref h8, .ref h9, .ref h10, .ref h11, .ref h12, .ref h1])), (h1, .inl (cI, 7, .inl (upd (fun _ => 0) (Int32.toNatClampNeg 6) 1)))]) hP hD [0, 1] [2, 3] rfl rfl (by decide) (by decide) hk1 hFc hP1 hD1
      generalize H1 = H at hP hS ⊢
      have hP : va_P D vwCl [(h2, .inr (6, [.int 0, .ref h13, .ref h14, .int 0, .int 5, .int 9, .int 0, .int 1, .int 0, .int 0, .ref h15, .ref h16, .int 0, .ref h17, .int 0, .ref h3, .int 0])), (h3, .inl (cI, 8, .inl (fun _ => 0))), (h0, .inr (9, [.ref h2, .ref h4, .ref h5, .int 0, .ref h6, .ref h7, .ref h8, .ref h9, .ref h10, .ref h11, .ref h12, .ref h1])), (h1, .inl (cI, 7, .inl (upd (fun _ => 0) (Int32.toNatClampNeg 6) 1)))] H := hP
      have hD : va_D A [(h2, .inr (6, [.int 0, .ref h13, .ref h14, .int 0, .int 5, .int 9, .int 0, .int 1, .int 0, .int 0, .ref h15, .ref h16, .int 0, .ref h17, .int 0, .ref h3, .int 0])), (h3, .inl (cI, 8, .inl (fun _ => 0))), (h0, .inr (9, [.ref h2, .ref h4, .ref h5, .int 0, .ref h6, .ref h7, .ref h8, .ref h9, .ref h10, .ref h11, .ref h12, .ref h1])), (h1, .inl (cI, 7, .inl (upd (fun _ => 0) (Int32.toNatClampNeg 6) 1)))] := hD
      have hw : r3 = (-6) := hw
      subst hw
      refine W.widen (k := 0) (n := 0) (Nat.le_of_ble_eq_true rfl) (Nat.le_of_ble_eq_true rfl) ?_
      exact W.iret (v := (-6)) hx hb hr (fun t ht hW => ⟨⟨(-6), (), rfl, (by rw [if_pos c1, if_pos c2]), trivial⟩, hS.F ht⟩) hS.2.2 dX9_row_35
    · refine lv_aload_n hx hb dX9_row_17 rfl (lv_at hl 0 rfl) ?_
      refine va_get (D := D) (ci := 9) (v := .ref h2) (C := RX9) (T := TX9) (N := 12) hx hb hts iw_X9_row_X9 hown hK hP 0 rfl rfl 0 (by decide) (hts (.fieldLink RX9 10 "TopTurned" "now" "LTopTurned$Told;") (by decide +kernel)) (fun _ h9 => h9) rfl dX9_row_18 ?_
      refine va_get (D := D) (ci := 6) (v := .int 0) (C := RX6) (T := TX6) (N := 17) hx hb hts iw_X9_row_X6 hown hK hP 2 rfl rfl 16 (by decide) (hts (.fieldLink RX9 192 "TopTurned$Told" "rowCount" "I") (by decide +kernel)) (fun _ h9 => h9) rfl dX9_row_21 ?_
      refine lv_bipush (v := 8) hx hb dX9_row_24 (by decide) ?_
      refine lv_icmp_lt (tgt := 36) hx hb dX9_row_26 (by decide) (fun _ => ?_) (fun c => absurd (by decide) c)
      refine lv_aload_n hx hb dX9_row_36 rfl (lv_at hl 0 rfl) ?_
      refine va_get (D := D) (ci := 9) (v := .ref h2) (C := RX9) (T := TX9) (N := 12) hx hb hts iw_X9_row_X9 hown hK hP 0 rfl rfl 0 (by decide) (hts (.fieldLink RX9 10 "TopTurned" "now" "LTopTurned$Told;") (by decide +kernel)) (fun _ h9 => h9) rfl dX9_row_37 ?_
      refine va_get (D := D) (ci := 6) (v := .ref h3) (C := RX6) (T := TX6) (N := 17) hx hb hts iw_X9_row_X6 hown hK hP 2 rfl rfl 15 (by decide) (hts (.fieldLink RX9 195 "TopTurned$Told" "row" "[I") (by decide +kernel)) (fun _ h9 => h9) rfl dX9_row_40 ?_
      refine lv_aload_n hx hb dX9_row_43 rfl (lv_at hl 0 rfl) ?_
      refine va_get (D := D) (ci := 9) (v := .ref h2) (C := RX9) (T := TX9) (N := 12) hx hb hts iw_X9_row_X9 hown hK hP 0 rfl rfl 0 (by decide) (hts (.fieldLink RX9 10 "TopTurned" "now" "LTopTurned$Told;") (by decide +kernel)) (fun _ h9 => h9) rfl dX9_row_44 ?_
      refine va_get (D := D) (ci := 6) (v := .int 0) (C := RX6) (T := TX6) (N := 17) hx hb hts iw_X9_row_X6 hown hK hP 2 rfl rfl 16 (by decide) (hts (.fieldLink RX9 192 "TopTurned$Told" "rowCount" "I") (by decide +kernel)) (fun _ h9 => h9) rfl dX9_row_47 ?_
      refine lv_iload_n hx hb dX9_row_50 rfl (lv_at hl 1 rfl) ?_
      refine va_iast (i := 0) (x := p1) hx hb hK hP hD hS 3 1 rfl rfl (vp_in_iff.mpr (by decide)) dX9_row_51 (fun H locs hP hD hS => ?_)
      have hP : va_P D vwCl [(h0, .inr (9, [.ref h2, .ref h4, .ref h5, .int 0, .ref h6, .ref h7, .ref h8, .ref h9, .ref h10, .ref h11, .ref h12, .ref h1])), (h1, .inl (cI, 7, .inl (fun _ => 0))), (h2, .inr (6, [.int 0, .ref h13, .ref h14, .int 0, .int 5, .int 9, .int 0, .int 1, .int 0, .int 0, .ref h15, .ref h16, .int 0, .ref h17, .int 0, .ref h3, .int 0])), (h3, .inl (cI, 8, .inl (upd (fun _ => 0) (Int32.toNatClampNeg 0) p1)))] H := hP
      have hD : va_D A [(h0, .inr (9, [.ref h2, .ref h4, .ref h5, .int 0, .ref h6, .ref h7, .ref h8, .ref h9, .ref h10, .ref h11, .ref h12, .ref h1])), (h1, .inl (cI, 7, .inl (fun _ => 0))), (h2, .inr (6, [.int 0, .ref h13, .ref h14, .int 0, .int 5, .int 9, .int 0, .int 1, .int 0, .int 0, .ref h15, .ref h16, .int 0, .ref h17, .int 0, .ref h3, .int 0])), (h3, .inl (cI, 8, .inl (upd (fun _ => 0) (Int32.toNatClampNeg 0) p1)))] := hD
      refine lv_aload_n hx hb dX9_row_52 rfl (lv_at hl 0 rfl) ?_
      refine va_get (D := D) (ci := 9) (v := .ref h2) (C := RX9) (T := TX9) (N := 12) hx hb hts iw_X9_row_X9 hown hK hP 0 rfl rfl 0 (by decide) (hts (.fieldLink RX9 10 "TopTurned" "now" "LTopTurned$Told;") (by decide +kernel)) (fun _ h9 => h9) rfl dX9_row_53 ?_
      refine lv_dup hx hb dX9_row_56 rfl ?_
      refine va_get (D := D) (ci := 6) (v := .int 0) (C := RX6) (T := TX6) (N := 17) hx hb hts iw_X9_row_X6 hown hK hP 2 rfl rfl 16 (by decide) (hts (.fieldLink RX9 192 "TopTurned$Told" "rowCount" "I") (by decide +kernel)) (fun _ h9 => h9) rfl dX9_row_57 ?_
      refine lv_iconst (v := 1) hx hb dX9_row_60 (by decide) ?_
      refine lv_iadd hx hb dX9_row_61 ?_
      refine kt_eq (y := 1) (by decide +kernel) ?_
      refine va_put (D := D) (ci := 6) (v := .int 1) (ty := .int) (C := RX6) (T := TX6) (N := 17) hx hb hts iw_X9_row_X6 tyX6 tyX6_ok nmX6 hown hK hP hD hS 2 rfl rfl 16 (by decide) (hts (.fieldLink RX9 192 "TopTurned$Told" "rowCount" "I") (by decide +kernel)) (fun _ h9 => h9) rfl (by decide +kernel) rfl rfl (Nat.le_of_ble_eq_true rfl) dX9_row_62 (fun H locs hP hD hS => ?_)
      have hP : va_P D vwCl [(h0, .inr (9, [.ref h2, .ref h4, .ref h5, .int 0, .ref h6, .ref h7, .ref h8, .ref h9, .ref h10, .ref h11, .ref h12, .ref h1])), (h1, .inl (cI, 7, .inl (fun _ => 0))), (h2, .inr (6, [.int 0, .ref h13, .ref h14, .int 0, .int 5, .int 9, .int 0, .int 1, .int 0, .int 0, .ref h15, .ref h16, .int 0, .ref h17, .int 0, .ref h3, .int 1])), (h3, .inl (cI, 8, .inl (upd (fun _ => 0) (Int32.toNatClampNeg 0) p1)))] H := hP
      have hD : va_D A [(h0, .inr (9, [.ref h2, .ref h4, .ref h5, .int 0, .ref h6, .ref h7, .ref h8, .ref h9, .ref h10, .ref h11, .ref h12, .ref h1])), (h1, .inl (cI, 7, .inl (fun _ => 0))), (h2, .inr (6, [.int 0, .ref h13, .ref h14, .int 0, .int 5, .int 9, .int 0, .int 1, .int 0, .int 0, .ref h15, .ref h16, .int 0, .ref h17, .int 0, .ref h3, .int 1])), (h3, .inl (cI, 8, .inl (upd (fun _ => 0) (Int32.toNatClampNeg 0) p1)))] := hD
      refine lv_aload_n hx hb dX9_row_65 rfl (lv_at hl 0 rfl) ?_
      refine va_get (D := D) (ci := 9) (v := .ref h2) (C := RX9) (T := TX9) (N := 12) hx hb hts iw_X9_row_X9 hown hK hP 0 rfl rfl 0 (by decide) (hts (.fieldLink RX9 10 "TopTurned" "now" "LTopTurned$Told;") (by decide +kernel)) (fun _ h9 => h9) rfl dX9_row_66 ?_
      refine va_get (D := D) (ci := 6) (v := .int 1) (C := RX6) (T := TX6) (N := 17) hx hb hts iw_X9_row_X6 hown hK hP 2 rfl rfl 16 (by decide) (hts (.fieldLink RX9 192 "TopTurned$Told" "rowCount" "I") (by decide +kernel)) (fun _ h9 => h9) rfl dX9_row_69 ?_
      refine W.widen (k := 0) (n := 0) (Nat.le_of_ble_eq_true rfl) (Nat.le_of_ble_eq_true rfl) ?_
      exact W.iret (v := 1) hx hb hr (fun t ht hW => ⟨⟨1, (), rfl, (by rw [if_pos c1, if_neg c2]), trivial⟩, hS.F ht⟩) hS.2.2 dX9_row_72
  · refine lv_aload_n hx hb dX9_row_4 rfl (lv_at hl 0 rfl) ?_
    refine lv_bipush (v := (-4)) hx hb dX9_row_5 (by decide) ?_
    have hPc := hP.sub (ws' := [(h0, .inr (9, [.ref h2, .ref h4, .ref h5, .int 0, .ref h6, .ref h7, .ref h8, .ref h9, .ref h10, .ref h11, .ref h12, .ref h1])), (h1, .inl (cI, 7, .inl (fun _ => 0)))]) [0, 1] rfl
    have hDc := hD.sub (ws' := [(h0, .inr (9, [.ref h2, .ref h4, .ref h5, .int 0, .ref h6, .ref h7, .ref h8, .ref h9, .ref h10, .ref h11, .ref h12, .ref h1])), (h1, .inl (cI, 7, .inl (fun _ => 0)))]) [0, 1] (by decide) rfl
    have hFc := va_free (wc := [(h0, .inr (9, [.ref h2, .ref h4, .ref h5, .int 0, .ref h6, .ref h7, .ref h8, .ref h9, .ref h10, .ref h11, .ref h12, .ref h1])), (h1, .inl (cI, 7, .inl (fun _ => 0)))]) hD hS hA [0, 1] rfl
    refine va_calli (va_runV (As := [.int (-4)]) (rest := []) ⟨hx, hb, hml, hown, hts⟩ (k_X9_refuse_1 l D cC cI cZ h0 h1 h2 h4 h5 h6 h7 h8 h9 h10 h11 h12 s.heap.size ) (cwV 1 hts gX9_row_X9_refuse rfl rfl rfl (by decide +kernel) ⟨(Nat.le_of_ble_eq_true rfl), (Nat.le_of_ble_eq_true rfl)⟩) (kPreV hK hPc hDc (va_recv hK hPc (ci := 9) (q0 := 0) rfl rfl)) rfl rfl hl.1 rfl (lv_room (Nat.le_of_ble_eq_true rfl)) dX9_row_7 ⟨(Nat.le_of_ble_eq_true rfl), (Nat.le_of_ble_eq_true rfl)⟩) hS (fun q _ h => hFc q h) hFc (fun r4 u t H1 locs ht hvm hw hB hz1 hk1 hS => ?_)
    obtain ⟨hP1, hD1⟩ := hB
    rw [ht] at hP1
    obtain ⟨hP, hD⟩ := va_join (wr := [(h2, .inr (6, [.int 0, .ref h13, .ref h14, .int 0, .int 5, .int 9, .int 0, .int 1, .int 0, .int 0, .ref h15, .ref h16, .int 0, .ref h17, .int 0, .ref h3, .int 0])), (h3, .inl (cI, 8, .inl (fun _ => 0)))]) (w1 := [(h0, .inr (9, [.ref h2, .ref h4, .ref h5, .int 0, .ref h6, .ref h7, .ref h8, .ref h9, .ref h10, .ref h11, .ref h12, .ref h1])), (h1, .inl (cI, 7, .inl (upd (fun _ => 0) (Int32.toNatClampNeg 4) 1)))]) hP hD [0, 1] [2, 3] rfl rfl (by decide) (by decide) hk1 hFc hP1 hD1
    generalize H1 = H at hP hS ⊢
    have hP : va_P D vwCl [(h2, .inr (6, [.int 0, .ref h13, .ref h14, .int 0, .int 5, .int 9, .int 0, .int 1, .int 0, .int 0, .ref h15, .ref h16, .int 0, .ref h17, .int 0, .ref h3, .int 0])), (h3, .inl (cI, 8, .inl (fun _ => 0))), (h0, .inr (9, [.ref h2, .ref h4, .ref h5, .int 0, .ref h6, .ref h7, .ref h8, .ref h9, .ref h10, .ref h11, .ref h12, .ref h1])), (h1, .inl (cI, 7, .inl (upd (fun _ => 0) (Int32.toNatClampNeg 4) 1)))] H := hP
    have hD : va_D A [(h2, .inr (6, [.int 0, .ref h13, .ref h14, .int 0, .int 5, .int 9, .int 0, .int 1, .int 0, .int 0, .ref h15, .ref h16, .int 0, .ref h17, .int 0, .ref h3, .int 0])), (h3, .inl (cI, 8, .inl (fun _ => 0))), (h0, .inr (9, [.ref h2, .ref h4, .ref h5, .int 0, .ref h6, .ref h7, .ref h8, .ref h9, .ref h10, .ref h11, .ref h12, .ref h1])), (h1, .inl (cI, 7, .inl (upd (fun _ => 0) (Int32.toNatClampNeg 4) 1)))] := hD
    have hw : r4 = (-4) := hw
    subst hw
    refine W.widen (k := 0) (n := 0) (Nat.le_of_ble_eq_true rfl) (Nat.le_of_ble_eq_true rfl) ?_
    exact W.iret (v := (-4)) hx hb hr (fun t ht hW => ⟨⟨(-4), (), rfl, (by rw [if_neg c1]), trivial⟩, hS.F ht⟩) hS.2.2 dX9_row_10
set_option maxHeartbeats 4000000 in
set_option maxRecDepth 100000 in
theorem k_X6_rowIsOrder (l : Launch) (D : va_G) (cC cI cZ : ClassId) (h0 h1 h2 h3 h4 h5 h6 : Nat) (sz : Nat) : Met l yX6_rowIsOrder wsX6_rowIsOrder ({ frames := 2, cells := 0, slots := 0, locals := 100 }) (va_Pc [.ref h0] (kPre D cC cI cZ [(h0, .inr (6, [.int 0, .ref h1, .ref h2, .int 0, .int 5, .int 9, .int 0, .int 1, .int 0, .int 0, .ref h3, .ref h4, .int 0, .ref h5, .int 0, .ref h6, .int 0]))] sz)) (va_Qi (fun (r : Int32) (_ : Unit) => r = 1) (fun _ _ => True) (fun _ => False)) 0 0 (fun _ => False) := by
  refine Met.ofW (cc := cX6_rowIsOrder) (maxL := 4) (ret := (some .boolean)) (by decide) rfl ?_
  intro p e s m args below meth c s₁ B hml hv
  obtain ⟨rfl, hsz, hP, hK, hD0⟩ := hv
  have hx := B.exec
  have hb := B.bytes
  have hr := B.returns
  have hts := atoms_spec (ws := wsX6_rowIsOrder) B.pre
  have hown : s.vm.findClass RX6 = some m.cls := findClass_of_methodNamed B.named
  have hlocks := B.notSynchronized
  subst hsz
  have hD := hD0
  have hS : va_S (fun _ => False) s.heap s.heap [] := va_S.rf
  have hl := lv_entry ([.ref h0]) (n := 4) (Nat.le_of_ble_eq_true rfl)
  rw [lg_entry_eq]
  generalize (lg_sl ([.ref h0]) ++ List.replicate (4 - (lg_sl ([.ref h0])).length) Slot.unset).toArray = ls at hl ⊢
  have hl : lv_has ls 4 [(0, .ref h0)] := hl
  refine lv_aload_n hx hb dX6_rowIsOrder_0 rfl (lv_at hl 0 rfl) ?_
  refine va_get (D := D) (ci := 6) (v := .int 0) (C := RX6) (T := TX6) (N := 17) hx hb hts iw_X6_rowIsOrder_X6 hown hK hP 0 rfl rfl 16 (by decide) (hts (.fieldLink RX6 62 "TopTurned$Told" "rowCount" "I") (by decide +kernel)) (fun _ h9 => h9) rfl dX6_rowIsOrder_1 ?_
  refine lv_aload_n hx hb dX6_rowIsOrder_4 rfl (lv_at hl 0 rfl) ?_
  refine va_get (D := D) (ci := 6) (v := .int 0) (C := RX6) (T := TX6) (N := 17) hx hb hts iw_X6_rowIsOrder_X6 hown hK hP 0 rfl rfl 0 (by decide) (hts (.fieldLink RX6 40 "TopTurned$Told" "plates" "I") (by decide +kernel)) (fun _ h9 => h9) rfl dX6_rowIsOrder_5 ?_
  refine lv_icmp_eq (tgt := 13) hx hb dX6_rowIsOrder_8 (by decide) (fun _ => ?_) (fun c => absurd (by decide) c)
  refine lv_iconst (v := 0) hx hb dX6_rowIsOrder_13 (by decide) ?_
  refine lv_istore_n (lv' := [(1, .int 0), (0, .ref h0)]) hx hb dX6_rowIsOrder_14 rfl hl (by decide) rfl (fun ls hl => ?_)
  refine lv_iconst (v := 0) hx hb dX6_rowIsOrder_15 (by decide) ?_
  refine lv_istore_n (lv' := [(2, .int 0), (1, .int 0), (0, .ref h0)]) hx hb dX6_rowIsOrder_16 rfl hl (by decide) rfl (fun ls hl => ?_)
  refine lv_iload_n hx hb dX6_rowIsOrder_17 rfl (lv_at hl 0 rfl) ?_
  refine lv_aload_n hx hb dX6_rowIsOrder_18 rfl (lv_at hl 2 rfl) ?_
  refine va_get (D := D) (ci := 6) (v := .int 0) (C := RX6) (T := TX6) (N := 17) hx hb hts iw_X6_rowIsOrder_X6 hown hK hP 0 rfl rfl 16 (by decide) (hts (.fieldLink RX6 62 "TopTurned$Told" "rowCount" "I") (by decide +kernel)) (fun _ h9 => h9) rfl dX6_rowIsOrder_19 ?_
  refine lv_icmp_ge (tgt := 77) hx hb dX6_rowIsOrder_22 (by decide) (fun _ => ?_) (fun c => absurd (by decide) c)
  refine lv_iconst (v := 1) hx hb dX6_rowIsOrder_77 (by decide) ?_
  exact W.zret (v := 1) hx hb hr rfl (fun t ht hW => ⟨⟨1, (), rfl, rfl, trivial⟩, hS.F ht⟩) hS.2.2 dX6_rowIsOrder_78
