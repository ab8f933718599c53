set_option maxHeartbeats 4000000 in
set_option maxRecDepth 100000 in
theorem k_X0_takesRow (l : Launch) (D : va_G) (cC cI cZ : ClassId) (h0 h1 h2 h3 h4 h5 h6 h7 h8 h9 h10 h11 : Nat) (sz : Nat) : Met l yX0_takesRow wsX0_takesRow ({ frames := 2, cells := 0, slots := 0, locals := 100 }) (va_Pc [.ref h0] (kPre D cC cI cZ [(h0, .inr (0, [.ref h1, .ref h2, .ref h3, .ref h4, .int 0, .ref h5, .int 0])), (h1, .inr (6, [.int 0, .ref h6, .ref h7, .int 0, .int 5, .int 9, .int 0, .int 1, .int 0, .int 0, .ref h8, .ref h9, .int 0, .ref h10, .int 0, .ref h11, .int 0]))] sz)) (va_Qi (fun (r : Int32) (_ : Unit) => r = 1) (fun _ t => va_P D vwCl [(h0, .inr (0, [.ref h1, .ref h2, .ref h3, .ref h4, .int 0, .ref h5, .int 0])), (h1, .inr (6, [.int 0, .ref h6, .ref h7, .int 0, .int 5, .int 9, .int 0, .int 1, .int 0, .int 0, .ref h8, .ref h9, .int 0, .ref h10, .int 0, .ref h11, .int 0]))] t.heap ∧ va_D (va_A [(h0, .inr (0, [.ref h1, .ref h2, .ref h3, .ref h4, .int 0, .ref h5, .int 0])), (h1, .inr (6, [.int 0, .ref h6, .ref h7, .int 0, .int 5, .int 9, .int 0, .int 1, .int 0, .int 0, .ref h8, .ref h9, .int 0, .ref h10, .int 0, .ref h11, .int 0]))] sz) [(h0, .inr (0, [.ref h1, .ref h2, .ref h3, .ref h4, .int 0, .ref h5, .int 0])), (h1, .inr (6, [.int 0, .ref h6, .ref h7, .int 0, .int 5, .int 9, .int 0, .int 1, .int 0, .int 0, .ref h8, .ref h9, .int 0, .ref h10, .int 0, .ref h11, .int 0]))]) (va_A [(h0, .inr (0, [.ref h1, .ref h2, .ref h3, .ref h4, .int 0, .ref h5, .int 0])), (h1, .inr (6, [.int 0, .ref h6, .ref h7, .int 0, .int 5, .int 9, .int 0, .int 1, .int 0, .int 0, .ref h8, .ref h9, .int 0, .ref h10, .int 0, .ref h11, .int 0]))] sz)) 0 0 (va_A [(h0, .inr (0, [.ref h1, .ref h2, .ref h3, .ref h4, .int 0, .ref h5, .int 0])), (h1, .inr (6, [.int 0, .ref h6, .ref h7, .int 0, .int 5, .int 9, .int 0, .int 1, .int 0, .int 0, .ref h8, .ref h9, .int 0, .ref h10, .int 0, .ref h11, .int 0]))] sz) := by
  refine Met.ofW (cc := cX0_takesRow) (maxL := 2) (ret := (some .boolean)) (by decide) rfl ?_
  intro p e s m args below meth c s₁ B hml hv
  obtain ⟨rfl, hsz, hP, hK, hD0⟩ := hv
  have hx := B.exec
  have hb := B.bytes
  have hr := B.returns
  have hts := atoms_spec (ws := wsX0_takesRow) B.pre
  have hown : s.vm.findClass RX0 = some m.cls := findClass_of_methodNamed B.named
  have hlocks := B.notSynchronized
  subst hsz
  have hD := hD0.self (sz := s.heap.size)
  generalize hAe : va_A [(h0, .inr (0, [.ref h1, .ref h2, .ref h3, .ref h4, .int 0, .ref h5, .int 0])), (h1, .inr (6, [.int 0, .ref h6, .ref h7, .int 0, .int 5, .int 9, .int 0, .int 1, .int 0, .int 0, .ref h8, .ref h9, .int 0, .ref h10, .int 0, .ref h11, .int 0]))] s.heap.size = A at hD ⊢
  have hA : ∀ q : Nat, s.heap.size ≤ q → A q := fun q h => by rw [← hAe]; exact Or.inr h
  have hS : va_S A s.heap s.heap [] := va_S.rf
  have hl := lv_entry ([.ref h0]) (n := 2) (Nat.le_of_ble_eq_true rfl)
  rw [lg_entry_eq]
  generalize (lg_sl ([.ref h0]) ++ List.replicate (2 - (lg_sl ([.ref h0])).length) Slot.unset).toArray = ls at hl ⊢
  have hl : lv_has ls 2 [(0, .ref h0)] := hl
  refine lv_aload_n hx hb dX0_takesRow_0 rfl (lv_at hl 0 rfl) ?_
  refine lv_aload_n hx hb dX0_takesRow_1 rfl (lv_at hl 0 rfl) ?_
  refine va_get (D := D) (ci := 0) (v := .ref h1) (C := RX0) (T := TX0) (N := 7) hx hb hts iw_X0_takesRow_X0 hown hK hP 0 rfl rfl 0 (by decide) (hts (.fieldLink RX0 18 "TopTurned$Blind" "told" "LTopTurned$Told;") (by decide +kernel)) (fun _ h9 => h9) rfl dX0_takesRow_2 ?_
  refine va_get (D := D) (ci := 6) (v := .int 0) (C := RX6) (T := TX6) (N := 17) hx hb hts iw_X0_takesRow_X6 hown hK hP 1 rfl rfl 16 (by decide) (hts (.fieldLink RX0 30 "TopTurned$Told" "rowCount" "I") (by decide +kernel)) (fun _ h9 => h9) rfl dX0_takesRow_5 ?_
  refine va_put (D := D) (ci := 0) (v := .int 0) (ty := .int) (C := RX0) (T := TX0) (N := 7) hx hb hts iw_X0_takesRow_X0 tyX0 tyX0_ok nmX0 hown hK hP hD hS 0 rfl rfl 6 (by decide) (hts (.fieldLink RX0 36 "TopTurned$Blind" "rowLength" "I") (by decide +kernel)) (fun _ h9 => h9) rfl (by decide +kernel) rfl rfl (Nat.le_of_ble_eq_true rfl) dX0_takesRow_8 (fun H locs hP hD hS => ?_)
  have hP : va_P D vwCl [(h0, .inr (0, [.ref h1, .ref h2, .ref h3, .ref h4, .int 0, .ref h5, .int 0])), (h1, .inr (6, [.int 0, .ref h6, .ref h7, .int 0, .int 5, .int 9, .int 0, .int 1, .int 0, .int 0, .ref h8, .ref h9, .int 0, .ref h10, .int 0, .ref h11, .int 0]))] H := hP
  have hD : va_D A [(h0, .inr (0, [.ref h1, .ref h2, .ref h3, .ref h4, .int 0, .ref h5, .int 0])), (h1, .inr (6, [.int 0, .ref h6, .ref h7, .int 0, .int 5, .int 9, .int 0, .int 1, .int 0, .int 0, .ref h8, .ref h9, .int 0, .ref h10, .int 0, .ref h11, .int 0]))] := hD
  refine lv_iconst (v := 0) hx hb dX0_takesRow_11 (by decide) ?_
  refine lv_istore_n (lv' := [(1, .int 0), (0, .ref h0)]) hx hb dX0_takesRow_12 rfl hl (by decide) rfl (fun ls hl => ?_)
  refine lv_iload_n hx hb dX0_takesRow_13 rfl (lv_at hl 0 rfl) ?_
  refine lv_aload_n hx hb dX0_takesRow_14 rfl (lv_at hl 1 rfl) ?_
  refine va_get (D := D) (ci := 0) (v := .int 0) (C := RX0) (T := TX0) (N := 7) hx hb hts iw_X0_takesRow_X0 hown hK hP 0 rfl rfl 6 (by decide) (hts (.fieldLink RX0 36 "TopTurned$Blind" "rowLength" "I") (by decide +kernel)) (fun _ h9 => h9) rfl dX0_takesRow_15 ?_
  refine lv_icmp_ge (tgt := 60) hx hb dX0_takesRow_18 (by decide) (fun _ => ?_) (fun c => absurd (by decide) c)
  refine lv_iconst (v := 1) hx hb dX0_takesRow_60 (by decide) ?_
  refine W.widen (k := 0) (n := 0) (Nat.le_of_ble_eq_true rfl) (Nat.le_of_ble_eq_true rfl) ?_
  have hP9 := hP.sub (ws' := [(h0, .inr (0, [.ref h1, .ref h2, .ref h3, .ref h4, .int 0, .ref h5, .int 0])), (h1, .inr (6, [.int 0, .ref h6, .ref h7, .int 0, .int 5, .int 9, .int 0, .int 1, .int 0, .int 0, .ref h8, .ref h9, .int 0, .ref h10, .int 0, .ref h11, .int 0]))]) [0, 1] rfl
  have hD9 := hD.sub (ws' := [(h0, .inr (0, [.ref h1, .ref h2, .ref h3, .ref h4, .int 0, .ref h5, .int 0])), (h1, .inr (6, [.int 0, .ref h6, .ref h7, .int 0, .int 5, .int 9, .int 0, .int 1, .int 0, .int 0, .ref h8, .ref h9, .int 0, .ref h10, .int 0, .ref h11, .int 0]))]) [0, 1] (by decide) rfl
  exact W.zret (v := 1) hx hb hr rfl (fun t ht hW => ⟨⟨1, (), rfl, rfl, ⟨by rw [ht]; exact hP9, hD9⟩⟩, hS.F ht⟩) hS.2.2 dX0_takesRow_61
set_option maxHeartbeats 4000000 in
set_option maxRecDepth 100000 in
theorem k_X6_burntPlates (l : Launch) (D : va_G) (cC cI cZ : ClassId) (h0 h1 h2 h3 h4 h5 h6 : Nat) (sz : Nat) : Met l yX6_burntPlates wsX6_burntPlates ({ frames := 2, cells := 0, slots := 0, locals := 100 }) (va_Pc [.ref h0] (kPre D cC cI cZ [(h0, .inr (6, [.int 0, .ref h1, .ref h2, .int 0, .int 5, .int 9, .int 0, .int 1, .int 0, .int 0, .ref h3, .ref h4, .int 0, .ref h5, .int 0, .ref h6, .int 0]))] sz)) (va_Qi (fun (r : Int32) (_ : Unit) => r = 0) (fun _ _ => True) (fun _ => False)) 0 0 (fun _ => False) := by
  refine Met.ofW (cc := cX6_burntPlates) (maxL := 3) (ret := (some .int)) (by decide) rfl ?_
  intro p e s m args below meth c s₁ B hml hv
  obtain ⟨rfl, hsz, hP, hK, hD0⟩ := hv
  have hx := B.exec
  have hb := B.bytes
  have hr := B.returns
  have hts := atoms_spec (ws := wsX6_burntPlates) B.pre
  have hown : s.vm.findClass RX6 = some m.cls := findClass_of_methodNamed B.named
  have hlocks := B.notSynchronized
  subst hsz
  have hD := hD0
  have hS : va_S (fun _ => False) s.heap s.heap [] := va_S.rf
  have hl := lv_entry ([.ref h0]) (n := 3) (Nat.le_of_ble_eq_true rfl)
  rw [lg_entry_eq]
  generalize (lg_sl ([.ref h0]) ++ List.replicate (3 - (lg_sl ([.ref h0])).length) Slot.unset).toArray = ls at hl ⊢
  have hl : lv_has ls 3 [(0, .ref h0)] := hl
  refine lv_iconst (v := 0) hx hb dX6_burntPlates_0 (by decide) ?_
  refine lv_istore_n (lv' := [(1, .int 0), (0, .ref h0)]) hx hb dX6_burntPlates_1 rfl hl (by decide) rfl (fun ls hl => ?_)
  refine lv_iconst (v := 0) hx hb dX6_burntPlates_2 (by decide) ?_
  refine lv_istore_n (lv' := [(2, .int 0), (1, .int 0), (0, .ref h0)]) hx hb dX6_burntPlates_3 rfl hl (by decide) rfl (fun ls hl => ?_)
  refine lv_iload_n hx hb dX6_burntPlates_4 rfl (lv_at hl 0 rfl) ?_
  refine lv_aload_n hx hb dX6_burntPlates_5 rfl (lv_at hl 2 rfl) ?_
  refine va_get (D := D) (ci := 6) (v := .int 0) (C := RX6) (T := TX6) (N := 17) hx hb hts iw_X6_burntPlates_X6 hown hK hP 0 rfl rfl 0 (by decide) (hts (.fieldLink RX6 40 "TopTurned$Told" "plates" "I") (by decide +kernel)) (fun _ h9 => h9) rfl dX6_burntPlates_6 ?_
  refine lv_icmp_ge (tgt := 43) hx hb dX6_burntPlates_9 (by decide) (fun _ => ?_) (fun c => absurd (by decide) c)
  refine lv_iload_n hx hb dX6_burntPlates_43 rfl (lv_at hl 1 rfl) ?_
  exact W.iret (v := 0) hx hb hr (fun t ht hW => ⟨⟨0, (), rfl, rfl, trivial⟩, hS.F ht⟩) hS.2.2 dX6_burntPlates_44
set_option maxHeartbeats 4000000 in
set_option maxRecDepth 100000 in
theorem k_X0_isAllowed (l : Launch) (D : va_G) (cC cI cZ : ClassId) (h0 h1 h2 h3 h4 h5 h6 h7 h8 h9 h10 h11 : Nat) (sz : Nat) : Met l yX0_isAllowed wsX0_isAllowed ({ frames := 2, cells := 0, slots := 0, locals := 100 }) (va_Pc [.ref h0, .int 0] (kPre D cC cI cZ [(h0, .inr (0, [.ref h1, .ref h2, .ref h3, .ref h4, .int 0, .ref h5, .int 0])), (h1, .inr (6, [.int 0, .ref h6, .ref h7, .int 0, .int 5, .int 9, .int 0, .int 1, .int 0, .int 0, .ref h8, .ref h9, .int 0, .ref h10, .int 0, .ref h11, .int 0]))] sz)) (va_Qi (fun (r : Int32) (_ : Unit) => r = 1) (fun _ _ => True) (fun _ => False)) 0 0 (fun _ => False) := by
  refine Met.ofW (cc := cX0_isAllowed) (maxL := 3) (ret := (some .boolean)) (by decide) rfl ?_
  intro p e s m args below meth c s₁ B hml hv
  obtain ⟨rfl, hsz, hP, hK, hD0⟩ := hv
  have hx := B.exec
  have hb := B.bytes
  have hr := B.returns
  have hts := atoms_spec (ws := wsX0_isAllowed) B.pre
  have hown : s.vm.findClass RX0 = some m.cls := findClass_of_methodNamed B.named
  have hlocks := B.notSynchronized
  subst hsz
  have hD := hD0
  have hS : va_S (fun _ => False) s.heap s.heap [] := va_S.rf
  have hl := lv_entry ([.ref h0, .int 0]) (n := 3) (Nat.le_of_ble_eq_true rfl)
  rw [lg_entry_eq]
  generalize (lg_sl ([.ref h0, .int 0]) ++ List.replicate (3 - (lg_sl ([.ref h0, .int 0])).length) Slot.unset).toArray = ls at hl ⊢
  have hl : lv_has ls 3 [(0, .ref h0), (1, .int 0)] := hl
  refine lv_iconst (v := 0) hx hb dX0_isAllowed_0 (by decide) ?_
  refine lv_istore_n (lv' := [(2, .int 0), (0, .ref h0), (1, .int 0)]) hx hb dX0_isAllowed_1 rfl hl (by decide) rfl (fun ls hl => ?_)
  refine lv_iload_n hx hb dX0_isAllowed_2 rfl (lv_at hl 0 rfl) ?_
  refine lv_aload_n hx hb dX0_isAllowed_3 rfl (lv_at hl 1 rfl) ?_
  refine va_get (D := D) (ci := 0) (v := .ref h1) (C := RX0) (T := TX0) (N := 7) hx hb hts iw_X0_isAllowed_X0 hown hK hP 0 rfl rfl 0 (by decide) (hts (.fieldLink RX0 18 "TopTurned$Blind" "told" "LTopTurned$Told;") (by decide +kernel)) (fun _ h9 => h9) rfl dX0_isAllowed_4 ?_
  refine va_get (D := D) (ci := 6) (v := .int 0) (C := RX6) (T := TX6) (N := 17) hx hb hts iw_X0_isAllowed_X6 hown hK hP 1 rfl rfl 9 (by decide) (hts (.fieldLink RX0 76 "TopTurned$Told" "sightCount" "I") (by decide +kernel)) (fun _ h9 => h9) rfl dX0_isAllowed_7 ?_
  refine lv_icmp_ge (tgt := 52) hx hb dX0_isAllowed_10 (by decide) (fun _ => ?_) (fun c => absurd (by decide) c)
  refine lv_iconst (v := 1) hx hb dX0_isAllowed_52 (by decide) ?_
  exact W.zret (v := 1) hx hb hr rfl (fun t ht hW => ⟨⟨1, (), rfl, rfl, trivial⟩, hS.F ht⟩) hS.2.2 dX0_isAllowed_53
set_option maxHeartbeats 4000000 in
set_option maxRecDepth 100000 in
theorem k_X5_stateWith (l : Launch) (D : va_G) (cC cI cZ : ClassId) (h0 h1 h2 h3 h4 h5 h6 : Nat) (sz : Nat) : Met l yX5_stateWith wsX5_stateWith ({ frames := 2, cells := 0, slots := 0, locals := 100 }) (va_Pc [.ref h0, .int 0, .int 0] (kPre D cC cI cZ [(h0, .inr (5, [.int 0, .int 1, .int 1, .int 1, .int 0, .ref h1, .ref h2, .ref h3, .ref h4, .ref h5, .ref h6]))] sz)) (va_Qi (fun (r : Int32) (_ : Unit) => r = 0) (fun _ _ => True) (fun _ => False)) 0 0 (fun _ => False) := by
  refine Met.ofW (cc := cX5_stateWith) (maxL := 5) (ret := (some .int)) (by decide) rfl ?_
  intro p e s m args below meth c s₁ B hml hv
  obtain ⟨rfl, hsz, hP, hK, hD0⟩ := hv
  have hx := B.exec
  have hb := B.bytes
  have hr := B.returns
  have hts := atoms_spec (ws := wsX5_stateWith) B.pre
  have hown : s.vm.findClass RX5 = some m.cls := findClass_of_methodNamed B.named
  have hlocks := B.notSynchronized
  subst hsz
  have hD := hD0
  have hS : va_S (fun _ => False) s.heap s.heap [] := va_S.rf
  have hl := lv_entry ([.ref h0, .int 0, .int 0]) (n := 5) (Nat.le_of_ble_eq_true rfl)
  rw [lg_entry_eq]
  generalize (lg_sl ([.ref h0, .int 0, .int 0]) ++ List.replicate (5 - (lg_sl ([.ref h0, .int 0, .int 0])).length) Slot.unset).toArray = ls at hl ⊢
  have hl : lv_has ls 5 [(0, .ref h0), (1, .int 0), (2, .int 0)] := hl
  refine lv_iconst (v := 0) hx hb dX5_stateWith_0 (by decide) ?_
  refine lv_istore_n (lv' := [(3, .int 0), (0, .ref h0), (1, .int 0), (2, .int 0)]) hx hb dX5_stateWith_1 rfl hl (by decide) rfl (fun ls hl => ?_)
  refine lv_iconst (v := 0) hx hb dX5_stateWith_2 (by decide) ?_
  refine lv_istore (lv' := [(4, .int 0), (3, .int 0), (0, .ref h0), (1, .int 0), (2, .int 0)]) hx hb dX5_stateWith_3 hl (by decide) rfl (fun ls hl => ?_)
  refine lv_iload hx hb dX5_stateWith_5 (lv_at hl 0 rfl) ?_
  refine lv_aload_n hx hb dX5_stateWith_7 rfl (lv_at hl 2 rfl) ?_
  refine va_get (D := D) (ci := 5) (v := .int 0) (C := RX5) (T := TX5) (N := 11) hx hb hts iw_X5_stateWith_X5 hown hK hP 0 rfl rfl 0 (by decide) (hts (.fieldLink RX5 40 "TopTurned$Space" "plates" "I") (by decide +kernel)) (fun _ h9 => h9) rfl dX5_stateWith_8 ?_
  refine lv_icmp_ge (tgt := 36) hx hb dX5_stateWith_11 (by decide) (fun _ => ?_) (fun c => absurd (by decide) c)
  refine lv_iload_n hx hb dX5_stateWith_36 rfl (lv_at hl 3 rfl) ?_
  refine lv_aload_n hx hb dX5_stateWith_37 rfl (lv_at hl 2 rfl) ?_
  refine va_get (D := D) (ci := 5) (v := .int 0) (C := RX5) (T := TX5) (N := 11) hx hb hts iw_X5_stateWith_X5 hown hK hP 0 rfl rfl 0 (by decide) (hts (.fieldLink RX5 40 "TopTurned$Space" "plates" "I") (by decide +kernel)) (fun _ h9 => h9) rfl dX5_stateWith_38 ?_
  refine lv_ishl hx hb dX5_stateWith_41 ?_
  refine kt_eq (y := 0) (by decide +kernel) ?_
  refine lv_iload_n hx hb dX5_stateWith_42 rfl (lv_at hl 1 rfl) ?_
  refine lv_ior hx hb dX5_stateWith_43 ?_
  refine kt_eq (y := 0) (by decide +kernel) ?_
  exact W.iret (v := 0) hx hb hr (fun t ht hW => ⟨⟨0, (), rfl, rfl, trivial⟩, hS.F ht⟩) hS.2.2 dX5_stateWith_44
set_option maxHeartbeats 4000000 in
set_option maxRecDepth 100000 in
theorem k_X0_listStarts (l : Launch) (D : va_G) (cC cI cZ : ClassId) (h0 h1 h2 h3 h4 h5 h6 h7 h8 h9 h10 h11 h12 h13 h14 h15 h16 h17 : Nat) (sz : Nat) : Met l yX0_listStarts wsX0_listStarts ({ frames := 4, cells := 0, slots := 0, locals := 200 }) (va_Pc [.ref h0] (kPre D cC cI cZ [(h0, .inr (0, [.ref h1, .ref h2, .ref h4, .ref h3, .int 0, .ref h5, .int 0])), (h1, .inr (6, [.int 0, .ref h6, .ref h7, .int 0, .int 5, .int 9, .int 0, .int 1, .int 0, .int 0, .ref h8, .ref h9, .int 0, .ref h10, .int 0, .ref h11, .int 0])), (h2, .inr (5, [.int 0, .int 1, .int 1, .int 1, .int 0, .ref h12, .ref h13, .ref h14, .ref h15, .ref h16, .ref h17])), (h3, .inl (cI, 120, .inl (fun _ => 0)))] sz)) (va_Qv (fun (_ : Unit) => True) (fun _ t => va_P D vwCl [(h0, .inr (0, [.ref h1, .ref h2, .ref h4, .ref h3, .int 1, .ref h5, .int 0])), (h1, .inr (6, [.int 0, .ref h6, .ref h7, .int 0, .int 5, .int 9, .int 0, .int 1, .int 0, .int 0, .ref h8, .ref h9, .int 0, .ref h10, .int 0, .ref h11, .int 0])), (h2, .inr (5, [.int 0, .int 1, .int 1, .int 1, .int 0, .ref h12, .ref h13, .ref h14, .ref h15, .ref h16, .ref h17])), (h3, .inl (cI, 120, .inl (fun _ => 0)))] t.heap ∧ va_D (va_A [(h0, .inr (0, [.ref h1, .ref h2, .ref h4, .ref h3, .int 0, .ref h5, .int 0])), (h1, .inr (6, [.int 0, .ref h6, .ref h7, .int 0, .int 5, .int 9, .int 0, .int 1, .int 0, .int 0, .ref h8, .ref h9, .int 0, .ref h10, .int 0, .ref h11, .int 0])), (h2, .inr (5, [.int 0, .int 1, .int 1, .int 1, .int 0, .ref h12, .ref h13, .ref h14, .ref h15, .ref h16, .ref h17])), (h3, .inl (cI, 120, .inl (fun _ => 0)))] sz) [(h0, .inr (0, [.ref h1, .ref h2, .ref h4, .ref h3, .int 1, .ref h5, .int 0])), (h1, .inr (6, [.int 0, .ref h6, .ref h7, .int 0, .int 5, .int 9, .int 0, .int 1, .int 0, .int 0, .ref h8, .ref h9, .int 0, .ref h10, .int 0, .ref h11, .int 0])), (h2, .inr (5, [.int 0, .int 1, .int 1, .int 1, .int 0, .ref h12, .ref h13, .ref h14, .ref h15, .ref h16, .ref h17])), (h3, .inl (cI, 120, .inl (fun _ => 0)))]) (va_A [(h0, .inr (0, [.ref h1, .ref h2, .ref h4, .ref h3, .int 0, .ref h5, .int 0])), (h1, .inr (6, [.int 0, .ref h6, .ref h7, .int 0, .int 5, .int 9, .int 0, .int 1, .int 0, .int 0, .ref h8, .ref h9, .int 0, .ref h10, .int 0, .ref h11, .int 0])), (h2, .inr (5, [.int 0, .int 1, .int 1, .int 1, .int 0, .ref h12, .ref h13, .ref h14, .ref h15, .ref h16, .ref h17])), (h3, .inl (cI, 120, .inl (fun _ => 0)))] sz)) 0 0 (va_A [(h0, .inr (0, [.ref h1, .ref h2, .ref h4, .ref h3, .int 0, .ref h5, .int 0])), (h1, .inr (6, [.int 0, .ref h6, .ref h7, .int 0, .int 5, .int 9, .int 0, .int 1, .int 0, .int 0, .ref h8, .ref h9, .int 0, .ref h10, .int 0, .ref h11, .int 0])), (h2, .inr (5, [.int 0, .int 1, .int 1, .int 1, .int 0, .ref h12, .ref h13, .ref h14, .ref h15, .ref h16, .ref h17])), (h3, .inl (cI, 120, .inl (fun _ => 0)))] sz) := by
  refine Met.ofW (cc := cX0_listStarts) (maxL := 3) (ret := none) (by decide) rfl ?_
  intro p e s m args below meth c s₁ B hml hv
  obtain ⟨rfl, hsz, hP, hK, hD0⟩ := hv
  have hx := B.exec
  have hb := B.bytes
  have hr := B.returns
  have hts := atoms_spec (ws := wsX0_listStarts) B.pre
  have hown : s.vm.findClass RX0 = some m.cls := findClass_of_methodNamed B.named
  have hlocks := B.notSynchronized
  subst hsz
  have hD := hD0.self (sz := s.heap.size)
  generalize hAe : va_A [(h0, .inr (0, [.ref h1, .ref h2, .ref h4, .ref h3, .int 0, .ref h5, .int 0])), (h1, .inr (6, [.int 0, .ref h6, .ref h7, .int 0, .int 5, .int 9, .int 0, .int 1, .int 0, .int 0, .ref h8, .ref h9, .int 0, .ref h10, .int 0, .ref h11, .int 0])), (h2, .inr (5, [.int 0, .int 1, .int 1, .int 1, .int 0, .ref h12, .ref h13, .ref h14, .ref h15, .ref h16, .ref h17])), (h3, .inl (cI, 120, .inl (fun _ => 0)))] s.heap.size = A at hD ⊢
  have hA : ∀ q : Nat, s.heap.size ≤ q → A q := fun q h => by rw [← hAe]; exact Or.inr h
  have hS : va_S A s.heap s.heap [] := va_S.rf
  have hl := lv_entry ([.ref h0]) (n := 3) (Nat.le_of_ble_eq_true rfl)
  rw [lg_entry_eq]
  generalize (lg_sl ([.ref h0]) ++ List.replicate (3 - (lg_sl ([.ref h0])).length) Slot.unset).toArray = ls at hl ⊢
  have hl : lv_has ls 3 [(0, .ref h0)] := hl
  refine lv_aload_n hx hb dX0_listStarts_0 rfl (lv_at hl 0 rfl) ?_
  refine lv_iconst (v := 0) hx hb dX0_listStarts_1 (by decide) ?_
  refine va_put (D := D) (ci := 0) (v := .int 0) (ty := .int) (C := RX0) (T := TX0) (N := 7) hx hb hts iw_X0_listStarts_X0 tyX0 tyX0_ok nmX0 hown hK hP hD hS 0 rfl rfl 4 (by decide) (hts (.fieldLink RX0 59 "TopTurned$Blind" "startCount" "I") (by decide +kernel)) (fun _ h9 => h9) rfl (by decide +kernel) rfl rfl (Nat.le_of_ble_eq_true rfl) dX0_listStarts_2 (fun H locs hP hD hS => ?_)
  have hP : va_P D vwCl [(h0, .inr (0, [.ref h1, .ref h2, .ref h4, .ref h3, .int 0, .ref h5, .int 0])), (h1, .inr (6, [.int 0, .ref h6, .ref h7, .int 0, .int 5, .int 9, .int 0, .int 1, .int 0, .int 0, .ref h8, .ref h9, .int 0, .ref h10, .int 0, .ref h11, .int 0])), (h2, .inr (5, [.int 0, .int 1, .int 1, .int 1, .int 0, .ref h12, .ref h13, .ref h14, .ref h15, .ref h16, .ref h17])), (h3, .inl (cI, 120, .inl (fun _ => 0)))] H := hP
  have hD : va_D A [(h0, .inr (0, [.ref h1, .ref h2, .ref h4, .ref h3, .int 0, .ref h5, .int 0])), (h1, .inr (6, [.int 0, .ref h6, .ref h7, .int 0, .int 5, .int 9, .int 0, .int 1, .int 0, .int 0, .ref h8, .ref h9, .int 0, .ref h10, .int 0, .ref h11, .int 0])), (h2, .inr (5, [.int 0, .int 1, .int 1, .int 1, .int 0, .ref h12, .ref h13, .ref h14, .ref h15, .ref h16, .ref h17])), (h3, .inl (cI, 120, .inl (fun _ => 0)))] := hD
  refine lv_aload_n hx hb dX0_listStarts_5 rfl (lv_at hl 0 rfl) ?_
  refine va_get (D := D) (ci := 0) (v := .ref h1) (C := RX0) (T := TX0) (N := 7) hx hb hts iw_X0_listStarts_X0 hown hK hP 0 rfl rfl 0 (by decide) (hts (.fieldLink RX0 18 "TopTurned$Blind" "told" "LTopTurned$Told;") (by decide +kernel)) (fun _ h9 => h9) rfl dX0_listStarts_6 ?_
  have hPc := hP.sub (ws' := [(h1, .inr (6, [.int 0, .ref h6, .ref h7, .int 0, .int 5, .int 9, .int 0, .int 1, .int 0, .int 0, .ref h8, .ref h9, .int 0, .ref h10, .int 0, .ref h11, .int 0]))]) [1] rfl
  have hDc := hD.sub (ws' := [(h1, .inr (6, [.int 0, .ref h6, .ref h7, .int 0, .int 5, .int 9, .int 0, .int 1, .int 0, .int 0, .ref h8, .ref h9, .int 0, .ref h10, .int 0, .ref h11, .int 0]))]) [1] (by decide) rfl
  refine va_calli (va_runV (As := []) (rest := []) ⟨hx, hb, hml, hown, hts⟩ (k_X6_burntPlates l D cC cI cZ h1 h6 h7 h8 h9 h10 h11 H.size ) (cwV 0 hts gX0_listStarts_X6_burntPlates rfl rfl rfl (by decide +kernel) ⟨(Nat.le_of_ble_eq_true rfl), (Nat.le_of_ble_eq_true rfl)⟩) (kPreV hK hPc hDc (va_recv hK hPc (ci := 6) (q0 := 0) rfl rfl)) rfl rfl hl.1 rfl (lv_room (Nat.le_of_ble_eq_true rfl)) dX0_listStarts_9 ⟨(Nat.le_of_ble_eq_true rfl), (Nat.le_of_ble_eq_true rfl)⟩) hS (fun q _ h => False.elim h) (fun q h => False.elim h) (fun r1 u t H1 locs ht hvm hw hB hz1 hk1 hS => ?_)
  have hP := hP.kept (H1 := H1) (fun k q hk => hk1 q.1 (hP k q hk).lt (fun h => h))
  generalize H1 = H at hP hS ⊢
  have hw : r1 = 0 := hw
  subst hw
  refine lv_istore_n (lv' := [(1, .int 0), (0, .ref h0)]) hx hb dX0_listStarts_12 rfl hl (by decide) rfl (fun ls hl => ?_)
  refine lv_iconst (v := 0) hx hb dX0_listStarts_13 (by decide) ?_
  refine lv_istore_n (lv' := [(2, .int 0), (1, .int 0), (0, .ref h0)]) hx hb dX0_listStarts_14 rfl hl (by decide) rfl (fun ls hl => ?_)
  refine lv_iload_n hx hb dX0_listStarts_15 rfl (lv_at hl 0 rfl) ?_
  refine lv_aload_n hx hb dX0_listStarts_16 rfl (lv_at hl 2 rfl) ?_
  refine va_get (D := D) (ci := 0) (v := .ref h2) (C := RX0) (T := TX0) (N := 7) hx hb hts iw_X0_listStarts_X0 hown hK hP 0 rfl rfl 1 (by decide) (hts (.fieldLink RX0 22 "TopTurned$Blind" "space" "LTopTurned$Space;") (by decide +kernel)) (fun _ h9 => h9) rfl dX0_listStarts_17 ?_
  refine va_get (D := D) (ci := 5) (v := .int 1) (C := RX5) (T := TX5) (N := 11) hx hb hts iw_X0_listStarts_X5 hown hK hP 2 rfl rfl 1 (by decide) (hts (.fieldLink RX0 66 "TopTurned$Space" "orders" "I") (by decide +kernel)) (fun _ h9 => h9) rfl dX0_listStarts_20 ?_
  refine lv_icmp_ge (tgt := 68) hx hb dX0_listStarts_23 (by decide) (fun c => absurd c (by decide)) (fun _ => ?_)
  refine lv_aload_n hx hb dX0_listStarts_26 rfl (lv_at hl 2 rfl) ?_
  refine lv_iload_n hx hb dX0_listStarts_27 rfl (lv_at hl 0 rfl) ?_
  have hPc := hP.sub (ws' := [(h0, .inr (0, [.ref h1, .ref h2, .ref h4, .ref h3, .int 0, .ref h5, .int 0])), (h1, .inr (6, [.int 0, .ref h6, .ref h7, .int 0, .int 5, .int 9, .int 0, .int 1, .int 0, .int 0, .ref h8, .ref h9, .int 0, .ref h10, .int 0, .ref h11, .int 0]))]) [0, 1] rfl
  have hDc := hD.sub (ws' := [(h0, .inr (0, [.ref h1, .ref h2, .ref h4, .ref h3, .int 0, .ref h5, .int 0])), (h1, .inr (6, [.int 0, .ref h6, .ref h7, .int 0, .int 5, .int 9, .int 0, .int 1, .int 0, .int 0, .ref h8, .ref h9, .int 0, .ref h10, .int 0, .ref h11, .int 0]))]) [0, 1] (by decide) rfl
  refine va_calli (va_runV (As := [.int 0]) (rest := []) ⟨hx, hb, hml, hown, hts⟩ (k_X0_isAllowed l D cC cI cZ h0 h1 h2 h4 h3 h5 h6 h7 h8 h9 h10 h11 H.size ) (cwV 1 hts gX0_listStarts_X0_isAllowed rfl rfl rfl (by decide +kernel) ⟨(Nat.le_of_ble_eq_true rfl), (Nat.le_of_ble_eq_true rfl)⟩) (kPreV hK hPc hDc (va_recv hK hPc (ci := 0) (q0 := 0) rfl rfl)) rfl rfl hl.1 rfl (lv_room (Nat.le_of_ble_eq_true rfl)) dX0_listStarts_28 ⟨(Nat.le_of_ble_eq_true rfl), (Nat.le_of_ble_eq_true rfl)⟩) hS (fun q _ h => False.elim h) (fun q h => False.elim h) (fun r2 u t H1 locs ht hvm hw hB hz1 hk1 hS => ?_)
  have hP := hP.kept (H1 := H1) (fun k q hk => hk1 q.1 (hP k q hk).lt (fun h => h))
  generalize H1 = H at hP hS ⊢
  have hw : r2 = 1 := hw
  subst hw
  refine lv_if_eq (tgt := 62) hx hb dX0_listStarts_31 (by decide) (fun c => absurd c (by decide)) (fun _ => ?_)
  refine lv_aload_n hx hb dX0_listStarts_34 rfl (lv_at hl 2 rfl) ?_
  refine va_get (D := D) (ci := 0) (v := .ref h3) (C := RX0) (T := TX0) (N := 7) hx hb hts iw_X0_listStarts_X0 hown hK hP 0 rfl rfl 3 (by decide) (hts (.fieldLink RX0 9 "TopTurned$Blind" "starts" "[I") (by decide +kernel)) (fun _ h9 => h9) rfl dX0_listStarts_35 ?_
  refine lv_aload_n hx hb dX0_listStarts_38 rfl (lv_at hl 2 rfl) ?_
  refine va_get (D := D) (ci := 0) (v := .int 0) (C := RX0) (T := TX0) (N := 7) hx hb hts iw_X0_listStarts_X0 hown hK hP 0 rfl rfl 4 (by decide) (hts (.fieldLink RX0 59 "TopTurned$Blind" "startCount" "I") (by decide +kernel)) (fun _ h9 => h9) rfl dX0_listStarts_39 ?_
  refine lv_aload_n hx hb dX0_listStarts_42 rfl (lv_at hl 2 rfl) ?_
  refine va_get (D := D) (ci := 0) (v := .ref h2) (C := RX0) (T := TX0) (N := 7) hx hb hts iw_X0_listStarts_X0 hown hK hP 0 rfl rfl 1 (by decide) (hts (.fieldLink RX0 22 "TopTurned$Blind" "space" "LTopTurned$Space;") (by decide +kernel)) (fun _ h9 => h9) rfl dX0_listStarts_43 ?_
  refine lv_iload_n hx hb dX0_listStarts_46 rfl (lv_at hl 0 rfl) ?_
  refine lv_iload_n hx hb dX0_listStarts_47 rfl (lv_at hl 1 rfl) ?_
  have hPc := hP.sub (ws' := [(h2, .inr (5, [.int 0, .int 1, .int 1, .int 1, .int 0, .ref h12, .ref h13, .ref h14, .ref h15, .ref h16, .ref h17]))]) [2] rfl
  have hDc := hD.sub (ws' := [(h2, .inr (5, [.int 0, .int 1, .int 1, .int 1, .int 0, .ref h12, .ref h13, .ref h14, .ref h15, .ref h16, .ref h17]))]) [2] (by decide) rfl
  refine va_calli (va_runV (As := [.int 0, .int 0]) (rest := [.int 0, .ref h3]) ⟨hx, hb, hml, hown, hts⟩ (k_X5_stateWith l D cC cI cZ h2 h12 h13 h14 h15 h16 h17 H.size ) (cwV 2 hts gX0_listStarts_X5_stateWith rfl rfl rfl (by decide +kernel) ⟨(Nat.le_of_ble_eq_true rfl), (Nat.le_of_ble_eq_true rfl)⟩) (kPreV hK hPc hDc (va_recv hK hPc (ci := 5) (q0 := 0) rfl rfl)) rfl rfl hl.1 rfl (lv_room (Nat.le_of_ble_eq_true rfl)) dX0_listStarts_48 ⟨(Nat.le_of_ble_eq_true rfl), (Nat.le_of_ble_eq_true rfl)⟩) hS (fun q _ h => False.elim h) (fun q h => False.elim h) (fun r3 u t H1 locs ht hvm hw hB hz1 hk1 hS => ?_)
  have hP := hP.kept (H1 := H1) (fun k q hk => hk1 q.1 (hP k q hk).lt (fun h => h))
  generalize H1 = H at hP hS ⊢
  have hw : r3 = 0 := hw
  subst hw
  refine kn_iastS (i := 0) (x := 0) hx hb hK hP hD hS 3 1 rfl rfl (vp_in_iff.mpr (by decide)) (by decide +kernel) dX0_listStarts_51 (fun H locs hP hD hS => ?_)
  refine lv_aload_n hx hb dX0_listStarts_52 rfl (lv_at hl 2 rfl) ?_
  refine lv_dup hx hb dX0_listStarts_53 rfl ?_
  refine va_get (D := D) (ci := 0) (v := .int 0) (C := RX0) (T := TX0) (N := 7) hx hb hts iw_X0_listStarts_X0 hown hK hP 0 rfl rfl 4 (by decide) (hts (.fieldLink RX0 59 "TopTurned$Blind" "startCount" "I") (by decide +kernel)) (fun _ h9 => h9) rfl dX0_listStarts_54 ?_
  refine lv_iconst (v := 1) hx hb dX0_listStarts_57 (by decide) ?_
  refine lv_iadd hx hb dX0_listStarts_58 ?_
  refine kt_eq (y := 1) (by decide +kernel) ?_
  refine va_put (D := D) (ci := 0) (v := .int 1) (ty := .int) (C := RX0) (T := TX0) (N := 7) hx hb hts iw_X0_listStarts_X0 tyX0 tyX0_ok nmX0 hown hK hP hD hS 0 rfl rfl 4 (by decide) (hts (.fieldLink RX0 59 "TopTurned$Blind" "startCount" "I") (by decide +kernel)) (fun _ h9 => h9) rfl (by decide +kernel) rfl rfl (Nat.le_of_ble_eq_true rfl) dX0_listStarts_59 (fun H locs hP hD hS => ?_)
  have hP : va_P D vwCl [(h0, .inr (0, [.ref h1, .ref h2, .ref h4, .ref h3, .int 1, .ref h5, .int 0])), (h1, .inr (6, [.int 0, .ref h6, .ref h7, .int 0, .int 5, .int 9, .int 0, .int 1, .int 0, .int 0, .ref h8, .ref h9, .int 0, .ref h10, .int 0, .ref h11, .int 0])), (h2, .inr (5, [.int 0, .int 1, .int 1, .int 1, .int 0, .ref h12, .ref h13, .ref h14, .ref h15, .ref h16, .ref h17])), (h3, .inl (cI, 120, .inl (fun _ => 0)))] H := hP
  have hD : va_D A [(h0, .inr (0, [.ref h1, .ref h2, .ref h4, .ref h3, .int 1, .ref h5, .int 0])), (h1, .inr (6, [.int 0, .ref h6, .ref h7, .int 0, .int 5, .int 9, .int 0, .int 1, .int 0, .int 0, .ref h8, .ref h9, .int 0, .ref h10, .int 0, .ref h11, .int 0])), (h2, .inr (5, [.int 0, .int 1, .int 1, .int 1, .int 0, .ref h12, .ref h13, .ref h14, .ref h15, .ref h16, .ref h17])), (h3, .inl (cI, 120, .inl (fun _ => 0)))] := hD
  refine lv_iinc (v := 1) (lv' := [(2, .int 1), (1, .int 0), (0, .ref h0)]) hx hb dX0_listStarts_62 hl (k := 0) rfl (by decide) (by decide) rfl (fun ls hl => ?_)
  refine lv_goto (tgt := 15) hx hb dX0_listStarts_65 (by decide) ?_
  refine lv_iload_n hx hb dX0_listStarts_15 rfl (lv_at hl 0 rfl) ?_
  refine lv_aload_n hx hb dX0_listStarts_16 rfl (lv_at hl 2 rfl) ?_
  refine va_get (D := D) (ci := 0) (v := .ref h2) (C := RX0) (T := TX0) (N := 7) hx hb hts iw_X0_listStarts_X0 hown hK hP 0 rfl rfl 1 (by decide) (hts (.fieldLink RX0 22 "TopTurned$Blind" "space" "LTopTurned$Space;") (by decide +kernel)) (fun _ h9 => h9) rfl dX0_listStarts_17 ?_
  refine va_get (D := D) (ci := 5) (v := .int 1) (C := RX5) (T := TX5) (N := 11) hx hb hts iw_X0_listStarts_X5 hown hK hP 2 rfl rfl 1 (by decide) (hts (.fieldLink RX0 66 "TopTurned$Space" "orders" "I") (by decide +kernel)) (fun _ h9 => h9) rfl dX0_listStarts_20 ?_
  refine lv_icmp_ge (tgt := 68) hx hb dX0_listStarts_23 (by decide) (fun _ => ?_) (fun c => absurd (by decide) c)
  refine W.widen (k := 0) (n := 0) (Nat.le_of_ble_eq_true rfl) (Nat.le_of_ble_eq_true rfl) ?_
  have hP9 := hP.sub (ws' := [(h0, .inr (0, [.ref h1, .ref h2, .ref h4, .ref h3, .int 1, .ref h5, .int 0])), (h1, .inr (6, [.int 0, .ref h6, .ref h7, .int 0, .int 5, .int 9, .int 0, .int 1, .int 0, .int 0, .ref h8, .ref h9, .int 0, .ref h10, .int 0, .ref h11, .int 0])), (h2, .inr (5, [.int 0, .int 1, .int 1, .int 1, .int 0, .ref h12, .ref h13, .ref h14, .ref h15, .ref h16, .ref h17])), (h3, .inl (cI, 120, .inl (fun _ => 0)))]) [0, 1, 2, 3] rfl
  have hD9 := hD.sub (ws' := [(h0, .inr (0, [.ref h1, .ref h2, .ref h4, .ref h3, .int 1, .ref h5, .int 0])), (h1, .inr (6, [.int 0, .ref h6, .ref h7, .int 0, .int 5, .int 9, .int 0, .int 1, .int 0, .int 0, .ref h8, .ref h9, .int 0, .ref h10, .int 0, .ref h11, .int 0])), (h2, .inr (5, [.int 0, .int 1, .int 1, .int 1, .int 0, .ref h12, .ref h13, .ref h14, .ref h15, .ref h16, .ref h17])), (h3, .inl (cI, 120, .inl (fun _ => 0)))]) [0, 1, 2, 3] (by decide) rfl
  exact W.vret hx hb hr (fun t ht hW => ⟨⟨(), rfl, trivial, ⟨by rw [ht]; exact hP9, hD9⟩⟩, hS.F ht⟩) hS.2.2 dX0_listStarts_68
set_option maxHeartbeats 4000000 in
set_option maxRecDepth 100000 in
theorem k_X0_arranges (l : Launch) (D : va_G) (cC cI cZ : ClassId) (h0 h1 h2 h3 h4 h5 h6 h7 h8 h9 h10 h11 h12 h13 h14 : Nat) (sz : Nat) : Met l yX0_arranges wsX0_arranges ({ frames := 4, cells := 0, slots := 0, locals := 200 }) (va_Pc [.ref h0, .int 0] (kPre D cC cI cZ [(h0, .inr (0, [.ref h4, .ref h2, .ref h1, .ref h5, .int 1, .ref h6, .int 0])), (h1, .inr (3, [.ref h4, .ref h2, .ref h7, .ref h3, .ref h8, .int 0])), (h2, .inr (5, [.int 0, .int 1, .int 1, .int 1, .int 0, .ref h9, .ref h10, .ref h11, .ref h12, .ref h13, .ref h14])), (h3, .inl (cZ, 120, .inl (upd (fun _ => 0) (Int32.toNatClampNeg 0) (vp_nar .boolean 1))))] sz)) (va_Qi (fun (r : Int32) (_ : Unit) => r = 1) (fun _ _ => True) (fun _ => False)) 0 0 (fun _ => False) := by
  refine Met.ofW (cc := cX0_arranges) (maxL := 4) (ret := (some .boolean)) (by decide) rfl ?_
  intro p e s m args below meth c s₁ B hml hv
  obtain ⟨rfl, hsz, hP, hK, hD0⟩ := hv
  have hx := B.exec
  have hb := B.bytes
  have hr := B.returns
  have hts := atoms_spec (ws := wsX0_arranges) B.pre
  have hown : s.vm.findClass RX0 = some m.cls := findClass_of_methodNamed B.named
  have hlocks := B.notSynchronized
  subst hsz
  have hD := hD0
  have hS : va_S (fun _ => False) s.heap s.heap [] := va_S.rf
  have hl := lv_entry ([.ref h0, .int 0]) (n := 4) (Nat.le_of_ble_eq_true rfl)
  rw [lg_entry_eq]
  generalize (lg_sl ([.ref h0, .int 0]) ++ List.replicate (4 - (lg_sl ([.ref h0, .int 0])).length) Slot.unset).toArray = ls at hl ⊢
  have hl : lv_has ls 4 [(0, .ref h0), (1, .int 0)] := hl
  refine lv_iload_n hx hb dX0_arranges_0 rfl (lv_at hl 1 rfl) ?_
  refine lv_istore_n (lv' := [(2, .int 0), (0, .ref h0), (1, .int 0)]) hx hb dX0_arranges_1 rfl hl (by decide) rfl (fun ls hl => ?_)
  refine lv_iconst (v := 0) hx hb dX0_arranges_2 (by decide) ?_
  refine lv_istore_n (lv' := [(3, .int 0), (2, .int 0), (0, .ref h0), (1, .int 0)]) hx hb dX0_arranges_3 rfl hl (by decide) rfl (fun ls hl => ?_)
  refine lv_iload_n hx hb dX0_arranges_4 rfl (lv_at hl 0 rfl) ?_
  refine lv_aload_n hx hb dX0_arranges_5 rfl (lv_at hl 2 rfl) ?_
  refine va_get (D := D) (ci := 0) (v := .int 0) (C := RX0) (T := TX0) (N := 7) hx hb hts iw_X0_arranges_X0 hown hK hP 0 rfl rfl 6 (by decide) (hts (.fieldLink RX0 36 "TopTurned$Blind" "rowLength" "I") (by decide +kernel)) (fun _ h9 => h9) rfl dX0_arranges_6 ?_
  refine lv_icmp_ge (tgt := 59) hx hb dX0_arranges_9 (by decide) (fun _ => ?_) (fun c => absurd (by decide) c)
  refine lv_aload_n hx hb dX0_arranges_59 rfl (lv_at hl 2 rfl) ?_
  refine va_get (D := D) (ci := 0) (v := .ref h1) (C := RX0) (T := TX0) (N := 7) hx hb hts iw_X0_arranges_X0 hown hK hP 0 rfl rfl 2 (by decide) (hts (.fieldLink RX0 26 "TopTurned$Blind" "rules" "LTopTurned$Rules;") (by decide +kernel)) (fun _ h9 => h9) rfl dX0_arranges_60 ?_
  refine lv_iload_n hx hb dX0_arranges_63 rfl (lv_at hl 1 rfl) ?_
  have hPc := hP.sub (ws' := [(h1, .inr (3, [.ref h4, .ref h2, .ref h7, .ref h3, .ref h8, .int 0])), (h2, .inr (5, [.int 0, .int 1, .int 1, .int 1, .int 0, .ref h9, .ref h10, .ref h11, .ref h12, .ref h13, .ref h14])), (h3, .inl (cZ, 120, .inl (upd (fun _ => 0) (Int32.toNatClampNeg 0) (vp_nar .boolean 1))))]) [1, 2, 3] rfl
  have hDc := hD.sub (ws' := [(h1, .inr (3, [.ref h4, .ref h2, .ref h7, .ref h3, .ref h8, .int 0])), (h2, .inr (5, [.int 0, .int 1, .int 1, .int 1, .int 0, .ref h9, .ref h10, .ref h11, .ref h12, .ref h13, .ref h14])), (h3, .inl (cZ, 120, .inl (upd (fun _ => 0) (Int32.toNatClampNeg 0) (vp_nar .boolean 1))))]) [1, 2, 3] (by decide) rfl
  refine va_calli (va_runV (As := [.int 0]) (rest := []) ⟨hx, hb, hml, hown, hts⟩ (k_X3_arranged l D cC cI cZ h1 h2 h3 h4 h7 h8 h9 h10 h11 h12 h13 h14 s.heap.size ) (cwV 1 hts gX0_arranges_X3_arranged rfl rfl rfl (by decide +kernel) ⟨(Nat.le_of_ble_eq_true rfl), (Nat.le_of_ble_eq_true rfl)⟩) (kPreV hK hPc hDc (va_recv hK hPc (ci := 3) (q0 := 0) rfl rfl)) rfl rfl hl.1 rfl (lv_room (Nat.le_of_ble_eq_true rfl)) dX0_arranges_64 ⟨(Nat.le_of_ble_eq_true rfl), (Nat.le_of_ble_eq_true rfl)⟩) hS (fun q _ h => False.elim h) (fun q h => False.elim h) (fun r1 u t H1 locs ht hvm hw hB hz1 hk1 hS => ?_)
  have hP := hP.kept (H1 := H1) (fun k q hk => hk1 q.1 (hP k q hk).lt (fun h => h))
  generalize H1 = H at hP hS ⊢
  have hw : r1 = 1 := hw
  subst hw
  exact W.zret (v := 1) hx hb hr rfl (fun t ht hW => ⟨⟨1, (), rfl, rfl, trivial⟩, hS.F ht⟩) hS.2.2 dX0_arranges_67
set_option maxHeartbeats 4000000 in
set_option maxRecDepth 100000 in
theorem k_X0_arrangesAll (l : Launch) (D : va_G) (cC cI cZ : ClassId) (h0 h1 h2 h3 h4 h5 h6 h7 h8 h9 h10 h11 h12 h13 h14 : Nat) (sz : Nat) : Met l yX0_arrangesAll wsX0_arrangesAll ({ frames := 6, cells := 0, slots := 0, locals := 300 }) (va_Pc [.ref h0] (kPre D cC cI cZ [(h0, .inr (0, [.ref h5, .ref h3, .ref h2, .ref h1, .int 1, .ref h6, .int 0])), (h1, .inl (cI, 120, .inl (fun _ => 0))), (h2, .inr (3, [.ref h5, .ref h3, .ref h7, .ref h4, .ref h8, .int 0])), (h3, .inr (5, [.int 0, .int 1, .int 1, .int 1, .int 0, .ref h9, .ref h10, .ref h11, .ref h12, .ref h13, .ref h14])), (h4, .inl (cZ, 120, .inl (upd (fun _ => 0) (Int32.toNatClampNeg 0) (vp_nar .boolean 1))))] sz)) (va_Qi (fun (r : Int32) (_ : Unit) => r = 1) (fun _ _ => True) (fun _ => False)) 0 0 (fun _ => False) := by
  refine Met.ofW (cc := cX0_arrangesAll) (maxL := 2) (ret := (some .boolean)) (by decide) rfl ?_
  intro p e s m args below meth c s₁ B hml hv
  obtain ⟨rfl, hsz, hP, hK, hD0⟩ := hv
  have hx := B.exec
  have hb := B.bytes
  have hr := B.returns
  have hts := atoms_spec (ws := wsX0_arrangesAll) B.pre
  have hown : s.vm.findClass RX0 = some m.cls := findClass_of_methodNamed B.named
  have hlocks := B.notSynchronized
  subst hsz
  have hD := hD0
  have hS : va_S (fun _ => False) s.heap s.heap [] := va_S.rf
  have hl := lv_entry ([.ref h0]) (n := 2) (Nat.le_of_ble_eq_true rfl)
  rw [lg_entry_eq]
  generalize (lg_sl ([.ref h0]) ++ List.replicate (2 - (lg_sl ([.ref h0])).length) Slot.unset).toArray = ls at hl ⊢
  have hl : lv_has ls 2 [(0, .ref h0)] := hl
  refine lv_iconst (v := 0) hx hb dX0_arrangesAll_0 (by decide) ?_
  refine lv_istore_n (lv' := [(1, .int 0), (0, .ref h0)]) hx hb dX0_arrangesAll_1 rfl hl (by decide) rfl (fun ls hl => ?_)
  refine lv_iload_n hx hb dX0_arrangesAll_2 rfl (lv_at hl 0 rfl) ?_
  refine lv_aload_n hx hb dX0_arrangesAll_3 rfl (lv_at hl 1 rfl) ?_
  refine va_get (D := D) (ci := 0) (v := .int 1) (C := RX0) (T := TX0) (N := 7) hx hb hts iw_X0_arrangesAll_X0 hown hK hP 0 rfl rfl 4 (by decide) (hts (.fieldLink RX0 59 "TopTurned$Blind" "startCount" "I") (by decide +kernel)) (fun _ h9 => h9) rfl dX0_arrangesAll_4 ?_
  refine lv_icmp_ge (tgt := 31) hx hb dX0_arrangesAll_7 (by decide) (fun c => absurd c (by decide)) (fun _ => ?_)
  refine lv_aload_n hx hb dX0_arrangesAll_10 rfl (lv_at hl 1 rfl) ?_
  refine lv_aload_n hx hb dX0_arrangesAll_11 rfl (lv_at hl 1 rfl) ?_
  refine va_get (D := D) (ci := 0) (v := .ref h1) (C := RX0) (T := TX0) (N := 7) hx hb hts iw_X0_arrangesAll_X0 hown hK hP 0 rfl rfl 3 (by decide) (hts (.fieldLink RX0 9 "TopTurned$Blind" "starts" "[I") (by decide +kernel)) (fun _ h9 => h9) rfl dX0_arrangesAll_12 ?_
  refine lv_iload_n hx hb dX0_arrangesAll_15 rfl (lv_at hl 0 rfl) ?_
  refine va_iald (i := 0) hx hb hK hP 1 1 rfl rfl (vp_in_iff.mpr (by decide)) dX0_arrangesAll_16 ?_
  refine kt_eq (y := 0) (by decide +kernel) ?_
  have hPc := hP.sub (ws' := [(h0, .inr (0, [.ref h5, .ref h3, .ref h2, .ref h1, .int 1, .ref h6, .int 0])), (h2, .inr (3, [.ref h5, .ref h3, .ref h7, .ref h4, .ref h8, .int 0])), (h3, .inr (5, [.int 0, .int 1, .int 1, .int 1, .int 0, .ref h9, .ref h10, .ref h11, .ref h12, .ref h13, .ref h14])), (h4, .inl (cZ, 120, .inl (upd (fun _ => 0) (Int32.toNatClampNeg 0) (vp_nar .boolean 1))))]) [0, 2, 3, 4] rfl
  have hDc := hD.sub (ws' := [(h0, .inr (0, [.ref h5, .ref h3, .ref h2, .ref h1, .int 1, .ref h6, .int 0])), (h2, .inr (3, [.ref h5, .ref h3, .ref h7, .ref h4, .ref h8, .int 0])), (h3, .inr (5, [.int 0, .int 1, .int 1, .int 1, .int 0, .ref h9, .ref h10, .ref h11, .ref h12, .ref h13, .ref h14])), (h4, .inl (cZ, 120, .inl (upd (fun _ => 0) (Int32.toNatClampNeg 0) (vp_nar .boolean 1))))]) [0, 2, 3, 4] (by decide) rfl
  refine va_calli (va_runV (As := [.int 0]) (rest := []) ⟨hx, hb, hml, hown, hts⟩ (k_X0_arranges l D cC cI cZ h0 h2 h3 h4 h5 h1 h6 h7 h8 h9 h10 h11 h12 h13 h14 s.heap.size ) (cwV 1 hts gX0_arrangesAll_X0_arranges rfl rfl rfl (by decide +kernel) ⟨(Nat.le_of_ble_eq_true rfl), (Nat.le_of_ble_eq_true rfl)⟩) (kPreV hK hPc hDc (va_recv hK hPc (ci := 0) (q0 := 0) rfl rfl)) rfl rfl hl.1 rfl (lv_room (Nat.le_of_ble_eq_true rfl)) dX0_arrangesAll_17 ⟨(Nat.le_of_ble_eq_true rfl), (Nat.le_of_ble_eq_true rfl)⟩) hS (fun q _ h => False.elim h) (fun q h => False.elim h) (fun r1 u t H1 locs ht hvm hw hB hz1 hk1 hS => ?_)
  have hP := hP.kept (H1 := H1) (fun k q hk => hk1 q.1 (hP k q hk).lt (fun h => h))
  generalize H1 = H at hP hS ⊢
  have hw : r1 = 1 := hw
  subst hw
  refine lv_if_ne (tgt := 25) hx hb dX0_arrangesAll_20 (by decide) (fun _ => ?_) (fun c => absurd c (by decide))
  refine lv_iinc (v := 1) (lv' := [(1, .int 1), (0, .ref h0)]) hx hb dX0_arrangesAll_25 hl (k := 0) rfl (by decide) (by decide) rfl (fun ls hl => ?_)
  refine lv_goto (tgt := 2) hx hb dX0_arrangesAll_28 (by decide) ?_
  refine lv_iload_n hx hb dX0_arrangesAll_2 rfl (lv_at hl 0 rfl) ?_
  refine lv_aload_n hx hb dX0_arrangesAll_3 rfl (lv_at hl 1 rfl) ?_
  refine va_get (D := D) (ci := 0) (v := .int 1) (C := RX0) (T := TX0) (N := 7) hx hb hts iw_X0_arrangesAll_X0 hown hK hP 0 rfl rfl 4 (by decide) (hts (.fieldLink RX0 59 "TopTurned$Blind" "startCount" "I") (by decide +kernel)) (fun _ h9 => h9) rfl dX0_arrangesAll_4 ?_
  refine lv_icmp_ge (tgt := 31) hx hb dX0_arrangesAll_7 (by decide) (fun _ => ?_) (fun c => absurd (by decide) c)
  refine lv_iconst (v := 1) hx hb dX0_arrangesAll_31 (by decide) ?_
  exact W.zret (v := 1) hx hb hr rfl (fun t ht hW => ⟨⟨1, (), rfl, rfl, trivial⟩, hS.F ht⟩) hS.2.2 dX0_arrangesAll_32
set_option maxHeartbeats 4000000 in
set_option maxRecDepth 100000 in
theorem k_X0_rowArrangesAll (l : Launch) (D : va_G) (cC cI cZ : ClassId) (h0 h1 h2 h3 h4 h5 h6 h7 h8 h9 h10 h11 h12 h13 h14 h15 h16 h17 h18 h19 h20 : Nat) (sz : Nat) : Met l yX0_rowArrangesAll wsX0_rowArrangesAll ({ frames := 8, cells := 0, slots := 0, locals := 400 }) (va_Pc [.ref h0] (kPre D cC cI cZ [(h0, .inr (0, [.ref h1, .ref h2, .ref h4, .ref h3, .int 0, .ref h6, .int 0])), (h1, .inr (6, [.int 0, .ref h7, .ref h8, .int 0, .int 5, .int 9, .int 0, .int 1, .int 0, .int 0, .ref h9, .ref h10, .int 0, .ref h11, .int 0, .ref h12, .int 0])), (h2, .inr (5, [.int 0, .int 1, .int 1, .int 1, .int 0, .ref h13, .ref h14, .ref h15, .ref h16, .ref h17, .ref h18])), (h3, .inl (cI, 120, .inl (fun _ => 0))), (h4, .inr (3, [.ref h1, .ref h2, .ref h19, .ref h5, .ref h20, .int 0])), (h5, .inl (cZ, 120, .inl (upd (fun _ => 0) (Int32.toNatClampNeg 0) (vp_nar .boolean 1))))] sz)) (va_Qi (fun (r : Int32) (_ : Unit) => r = 1) (fun _ t => va_P D vwCl [(h4, .inr (3, [.ref h1, .ref h2, .ref h19, .ref h5, .ref h20, .int 0])), (h5, .inl (cZ, 120, .inl (upd (fun _ => 0) (Int32.toNatClampNeg 0) (vp_nar .boolean 1)))), (h0, .inr (0, [.ref h1, .ref h2, .ref h4, .ref h3, .int 1, .ref h6, .int 0])), (h1, .inr (6, [.int 0, .ref h7, .ref h8, .int 0, .int 5, .int 9, .int 0, .int 1, .int 0, .int 0, .ref h9, .ref h10, .int 0, .ref h11, .int 0, .ref h12, .int 0])), (h2, .inr (5, [.int 0, .int 1, .int 1, .int 1, .int 0, .ref h13, .ref h14, .ref h15, .ref h16, .ref h17, .ref h18])), (h3, .inl (cI, 120, .inl (fun _ => 0)))] t.heap ∧ va_D (va_A [(h0, .inr (0, [.ref h1, .ref h2, .ref h4, .ref h3, .int 0, .ref h6, .int 0])), (h1, .inr (6, [.int 0, .ref h7, .ref h8, .int 0, .int 5, .int 9, .int 0, .int 1, .int 0, .int 0, .ref h9, .ref h10, .int 0, .ref h11, .int 0, .ref h12, .int 0])), (h2, .inr (5, [.int 0, .int 1, .int 1, .int 1, .int 0, .ref h13, .ref h14, .ref h15, .ref h16, .ref h17, .ref h18])), (h3, .inl (cI, 120, .inl (fun _ => 0))), (h4, .inr (3, [.ref h1, .ref h2, .ref h19, .ref h5, .ref h20, .int 0])), (h5, .inl (cZ, 120, .inl (upd (fun _ => 0) (Int32.toNatClampNeg 0) (vp_nar .boolean 1))))] sz) [(h4, .inr (3, [.ref h1, .ref h2, .ref h19, .ref h5, .ref h20, .int 0])), (h5, .inl (cZ, 120, .inl (upd (fun _ => 0) (Int32.toNatClampNeg 0) (vp_nar .boolean 1)))), (h0, .inr (0, [.ref h1, .ref h2, .ref h4, .ref h3, .int 1, .ref h6, .int 0])), (h1, .inr (6, [.int 0, .ref h7, .ref h8, .int 0, .int 5, .int 9, .int 0, .int 1, .int 0, .int 0, .ref h9, .ref h10, .int 0, .ref h11, .int 0, .ref h12, .int 0])), (h2, .inr (5, [.int 0, .int 1, .int 1, .int 1, .int 0, .ref h13, .ref h14, .ref h15, .ref h16, .ref h17, .ref h18])), (h3, .inl (cI, 120, .inl (fun _ => 0)))]) (va_A [(h0, .inr (0, [.ref h1, .ref h2, .ref h4, .ref h3, .int 0, .ref h6, .int 0])), (h1, .inr (6, [.int 0, .ref h7, .ref h8, .int 0, .int 5, .int 9, .int 0, .int 1, .int 0, .int 0, .ref h9, .ref h10, .int 0, .ref h11, .int 0, .ref h12, .int 0])), (h2, .inr (5, [.int 0, .int 1, .int 1, .int 1, .int 0, .ref h13, .ref h14, .ref h15, .ref h16, .ref h17, .ref h18])), (h3, .inl (cI, 120, .inl (fun _ => 0))), (h4, .inr (3, [.ref h1, .ref h2, .ref h19, .ref h5, .ref h20, .int 0])), (h5, .inl (cZ, 120, .inl (upd (fun _ => 0) (Int32.toNatClampNeg 0) (vp_nar .boolean 1))))] sz)) 0 0 (va_A [(h0, .inr (0, [.ref h1, .ref h2, .ref h4, .ref h3, .int 0, .ref h6, .int 0])), (h1, .inr (6, [.int 0, .ref h7, .ref h8, .int 0, .int 5, .int 9, .int 0, .int 1, .int 0, .int 0, .ref h9, .ref h10, .int 0, .ref h11, .int 0, .ref h12, .int 0])), (h2, .inr (5, [.int 0, .int 1, .int 1, .int 1, .int 0, .ref h13, .ref h14, .ref h15, .ref h16, .ref h17, .ref h18])), (h3, .inl (cI, 120, .inl (fun _ => 0))), (h4, .inr (3, [.ref h1, .ref h2, .ref h19, .ref h5, .ref h20, .int 0])), (h5, .inl (cZ, 120, .inl (upd (fun _ => 0) (Int32.toNatClampNeg 0) (vp_nar .boolean 1))))] sz) := by
  refine Met.ofW (cc := cX0_rowArrangesAll) (maxL := 1) (ret := (some .boolean)) (by decide) rfl ?_
  intro p e s m args below meth c s₁ B hml hv
  obtain ⟨rfl, hsz, hP, hK, hD0⟩ := hv
  have hx := B.exec
  have hb := B.bytes
  have hr := B.returns
  have hts := atoms_spec (ws := wsX0_rowArrangesAll) B.pre
  have hown : s.vm.findClass RX0 = some m.cls := findClass_of_methodNamed B.named
  have hlocks := B.notSynchronized
  subst hsz
  have hD := hD0.self (sz := s.heap.size)
  generalize hAe : va_A [(h0, .inr (0, [.ref h1, .ref h2, .ref h4, .ref h3, .int 0, .ref h6, .int 0])), (h1, .inr (6, [.int 0, .ref h7, .ref h8, .int 0, .int 5, .int 9, .int 0, .int 1, .int 0, .int 0, .ref h9, .ref h10, .int 0, .ref h11, .int 0, .ref h12, .int 0])), (h2, .inr (5, [.int 0, .int 1, .int 1, .int 1, .int 0, .ref h13, .ref h14, .ref h15, .ref h16, .ref h17, .ref h18])), (h3, .inl (cI, 120, .inl (fun _ => 0))), (h4, .inr (3, [.ref h1, .ref h2, .ref h19, .ref h5, .ref h20, .int 0])), (h5, .inl (cZ, 120, .inl (upd (fun _ => 0) (Int32.toNatClampNeg 0) (vp_nar .boolean 1))))] s.heap.size = A at hD ⊢
  have hA : ∀ q : Nat, s.heap.size ≤ q → A q := fun q h => by rw [← hAe]; exact Or.inr h
  have hS : va_S A s.heap s.heap [] := va_S.rf
  have hl := lv_entry ([.ref h0]) (n := 1) (Nat.le_of_ble_eq_true rfl)
  rw [lg_entry_eq]
  generalize (lg_sl ([.ref h0]) ++ List.replicate (1 - (lg_sl ([.ref h0])).length) Slot.unset).toArray = ls at hl ⊢
  have hl : lv_has ls 1 [(0, .ref h0)] := hl
  refine lv_aload_n hx hb dX0_rowArrangesAll_0 rfl (lv_at hl 0 rfl) ?_
  have hPc := hP.sub (ws' := [(h0, .inr (0, [.ref h1, .ref h2, .ref h4, .ref h3, .int 0, .ref h6, .int 0])), (h1, .inr (6, [.int 0, .ref h7, .ref h8, .int 0, .int 5, .int 9, .int 0, .int 1, .int 0, .int 0, .ref h9, .ref h10, .int 0, .ref h11, .int 0, .ref h12, .int 0])), (h2, .inr (5, [.int 0, .int 1, .int 1, .int 1, .int 0, .ref h13, .ref h14, .ref h15, .ref h16, .ref h17, .ref h18])), (h3, .inl (cI, 120, .inl (fun _ => 0)))]) [0, 1, 2, 3] rfl
  have hDc := hD.sub (ws' := [(h0, .inr (0, [.ref h1, .ref h2, .ref h4, .ref h3, .int 0, .ref h6, .int 0])), (h1, .inr (6, [.int 0, .ref h7, .ref h8, .int 0, .int 5, .int 9, .int 0, .int 1, .int 0, .int 0, .ref h9, .ref h10, .int 0, .ref h11, .int 0, .ref h12, .int 0])), (h2, .inr (5, [.int 0, .int 1, .int 1, .int 1, .int 0, .ref h13, .ref h14, .ref h15, .ref h16, .ref h17, .ref h18])), (h3, .inl (cI, 120, .inl (fun _ => 0)))]) [0, 1, 2, 3] (by decide) rfl
  have hFc := va_free (wc := [(h0, .inr (0, [.ref h1, .ref h2, .ref h4, .ref h3, .int 0, .ref h6, .int 0])), (h1, .inr (6, [.int 0, .ref h7, .ref h8, .int 0, .int 5, .int 9, .int 0, .int 1, .int 0, .int 0, .ref h9, .ref h10, .int 0, .ref h11, .int 0, .ref h12, .int 0])), (h2, .inr (5, [.int 0, .int 1, .int 1, .int 1, .int 0, .ref h13, .ref h14, .ref h15, .ref h16, .ref h17, .ref h18])), (h3, .inl (cI, 120, .inl (fun _ => 0)))]) hD hS hA [0, 1, 2, 3] rfl
  refine va_callv (va_runV (As := []) (rest := []) ⟨hx, hb, hml, hown, hts⟩ (k_X0_listStarts l D cC cI cZ h0 h1 h2 h3 h4 h6 h7 h8 h9 h10 h11 h12 h13 h14 h15 h16 h17 h18 s.heap.size ) (cwV 0 hts gX0_rowArrangesAll_X0_listStarts rfl rfl rfl (by decide +kernel) ⟨(Nat.le_of_ble_eq_true rfl), (Nat.le_of_ble_eq_true rfl)⟩) (kPreV hK hPc hDc (va_recv hK hPc (ci := 0) (q0 := 0) rfl rfl)) rfl rfl hl.1 rfl (lv_room (Nat.le_of_ble_eq_true rfl)) dX0_rowArrangesAll_1 ⟨(Nat.le_of_ble_eq_true rfl), (Nat.le_of_ble_eq_true rfl)⟩) hS (fun q _ h => hFc q h) hFc (fun u t H1 locs ht hvm hw hB hz1 hk1 hS => ?_)
  obtain ⟨hP1, hD1⟩ := hB
  rw [ht] at hP1
  obtain ⟨hP, hD⟩ := va_join (wr := [(h4, .inr (3, [.ref h1, .ref h2, .ref h19, .ref h5, .ref h20, .int 0])), (h5, .inl (cZ, 120, .inl (upd (fun _ => 0) (Int32.toNatClampNeg 0) (vp_nar .boolean 1))))]) (w1 := [(h0, .inr (0, [.ref h1, .ref h2, .ref h4, .ref h3, .int 1, .ref h6, .int 0])), (h1, .inr (6, [.int 0, .ref h7, .ref h8, .int 0, .int 5, .int 9, .int 0, .int 1, .int 0, .int 0, .ref h9, .ref h10, .int 0, .ref h11, .int 0, .ref h12, .int 0])), (h2, .inr (5, [.int 0, .int 1, .int 1, .int 1, .int 0, .ref h13, .ref h14, .ref h15, .ref h16, .ref h17, .ref h18])), (h3, .inl (cI, 120, .inl (fun _ => 0)))]) hP hD [0, 1, 2, 3] [4, 5] rfl rfl (by decide) (by decide) hk1 hFc hP1 hD1
  generalize H1 = H at hP hS ⊢
  have hP : va_P D vwCl [(h4, .inr (3, [.ref h1, .ref h2, .ref h19, .ref h5, .ref h20, .int 0])), (h5, .inl (cZ, 120, .inl (upd (fun _ => 0) (Int32.toNatClampNeg 0) (vp_nar .boolean 1)))), (h0, .inr (0, [.ref h1, .ref h2, .ref h4, .ref h3, .int 1, .ref h6, .int 0])), (h1, .inr (6, [.int 0, .ref h7, .ref h8, .int 0, .int 5, .int 9, .int 0, .int 1, .int 0, .int 0, .ref h9, .ref h10, .int 0, .ref h11, .int 0, .ref h12, .int 0])), (h2, .inr (5, [.int 0, .int 1, .int 1, .int 1, .int 0, .ref h13, .ref h14, .ref h15, .ref h16, .ref h17, .ref h18])), (h3, .inl (cI, 120, .inl (fun _ => 0)))] H := hP
  have hD : va_D A [(h4, .inr (3, [.ref h1, .ref h2, .ref h19, .ref h5, .ref h20, .int 0])), (h5, .inl (cZ, 120, .inl (upd (fun _ => 0) (Int32.toNatClampNeg 0) (vp_nar .boolean 1)))), (h0, .inr (0, [.ref h1, .ref h2, .ref h4, .ref h3, .int 1, .ref h6, .int 0])), (h1, .inr (6, [.int 0, .ref h7, .ref h8, .int 0, .int 5, .int 9, .int 0, .int 1, .int 0, .int 0, .ref h9, .ref h10, .int 0, .ref h11, .int 0, .ref h12, .int 0])), (h2, .inr (5, [.int 0, .int 1, .int 1, .int 1, .int 0, .ref h13, .ref h14, .ref h15, .ref h16, .ref h17, .ref h18])), (h3, .inl (cI, 120, .inl (fun _ => 0)))] := hD
  refine lv_aload_n hx hb dX0_rowArrangesAll_4 rfl (lv_at hl 0 rfl) ?_
  have hPc := hP.sub (ws' := [(h0, .inr (0, [.ref h1, .ref h2, .ref h4, .ref h3, .int 1, .ref h6, .int 0])), (h3, .inl (cI, 120, .inl (fun _ => 0))), (h4, .inr (3, [.ref h1, .ref h2, .ref h19, .ref h5, .ref h20, .int 0])), (h2, .inr (5, [.int 0, .int 1, .int 1, .int 1, .int 0, .ref h13, .ref h14, .ref h15, .ref h16, .ref h17, .ref h18])), (h5, .inl (cZ, 120, .inl (upd (fun _ => 0) (Int32.toNatClampNeg 0) (vp_nar .boolean 1))))]) [2, 5, 0, 4, 1] rfl
  have hDc := hD.sub (ws' := [(h0, .inr (0, [.ref h1, .ref h2, .ref h4, .ref h3, .int 1, .ref h6, .int 0])), (h3, .inl (cI, 120, .inl (fun _ => 0))), (h4, .inr (3, [.ref h1, .ref h2, .ref h19, .ref h5, .ref h20, .int 0])), (h2, .inr (5, [.int 0, .int 1, .int 1, .int 1, .int 0, .ref h13, .ref h14, .ref h15, .ref h16, .ref h17, .ref h18])), (h5, .inl (cZ, 120, .inl (upd (fun _ => 0) (Int32.toNatClampNeg 0) (vp_nar .boolean 1))))]) [2, 5, 0, 4, 1] (by decide) rfl
  refine va_calli (va_runV (As := []) (rest := []) ⟨hx, hb, hml, hown, hts⟩ (k_X0_arrangesAll l D cC cI cZ h0 h3 h4 h2 h5 h1 h6 h19 h20 h13 h14 h15 h16 h17 h18 H.size ) (cwV 0 hts gX0_rowArrangesAll_X0_arrangesAll rfl rfl rfl (by decide +kernel) ⟨(Nat.le_of_ble_eq_true rfl), (Nat.le_of_ble_eq_true rfl)⟩) (kPreV hK hPc hDc (va_recv hK hPc (ci := 0) (q0 := 0) rfl rfl)) rfl rfl hl.1 rfl (lv_room (Nat.le_of_ble_eq_true rfl)) dX0_rowArrangesAll_5 ⟨(Nat.le_of_ble_eq_true rfl), (Nat.le_of_ble_eq_true rfl)⟩) hS (fun q _ h => False.elim h) (fun q h => False.elim h) (fun r1 u t H1 locs ht hvm hw hB hz1 hk1 hS => ?_)
  have hP := hP.kept (H1 := H1) (fun k q hk => hk1 q.1 (hP k q hk).lt (fun h => h))
  generalize H1 = H at hP hS ⊢
  have hw : r1 = 1 := hw
  subst hw
  refine W.widen (k := 0) (n := 0) (Nat.le_of_ble_eq_true rfl) (Nat.le_of_ble_eq_true rfl) ?_
  have hP9 := hP.sub (ws' := [(h4, .inr (3, [.ref h1, .ref h2, .ref h19, .ref h5, .ref h20, .int 0])), (h5, .inl (cZ, 120, .inl (upd (fun _ => 0) (Int32.toNatClampNeg 0) (vp_nar .boolean 1)))), (h0, .inr (0, [.ref h1, .ref h2, .ref h4, .ref h3, .int 1, .ref h6, .int 0])), (h1, .inr (6, [.int 0, .ref h7, .ref h8, .int 0, .int 5, .int 9, .int 0, .int 1, .int 0, .int 0, .ref h9, .ref h10, .int 0, .ref h11, .int 0, .ref h12, .int 0])), (h2, .inr (5, [.int 0, .int 1, .int 1, .int 1, .int 0, .ref h13, .ref h14, .ref h15, .ref h16, .ref h17, .ref h18])), (h3, .inl (cI, 120, .inl (fun _ => 0)))]) [0, 1, 2, 3, 4, 5] rfl
  have hD9 := hD.sub (ws' := [(h4, .inr (3, [.ref h1, .ref h2, .ref h19, .ref h5, .ref h20, .int 0])), (h5, .inl (cZ, 120, .inl (upd (fun _ => 0) (Int32.toNatClampNeg 0) (vp_nar .boolean 1)))), (h0, .inr (0, [.ref h1, .ref h2, .ref h4, .ref h3, .int 1, .ref h6, .int 0])), (h1, .inr (6, [.int 0, .ref h7, .ref h8, .int 0, .int 5, .int 9, .int 0, .int 1, .int 0, .int 0, .ref h9, .ref h10, .int 0, .ref h11, .int 0, .ref h12, .int 0])), (h2, .inr (5, [.int 0, .int 1, .int 1, .int 1, .int 0, .ref h13, .ref h14, .ref h15, .ref h16, .ref h17, .ref h18])), (h3, .inl (cI, 120, .inl (fun _ => 0)))]) [0, 1, 2, 3, 4, 5] (by decide) rfl
  exact W.zret (v := 1) hx hb hr rfl (fun t ht hW => ⟨⟨1, (), rfl, rfl, ⟨by rw [ht]; exact hP9, hD9⟩⟩, hS.F ht⟩) hS.2.2 dX0_rowArrangesAll_8
