def sw_k_X3_init : List Cond := .code yX3_init cX3_init 3 none :: (([.methodLink RX3 3 objectInit, .instanceMethod objectInit, .code objectInit ⟨#[0xb1]⟩ 1 none, .arrayClass .boolean, .fieldLink RX3 9 "TopTurned$Rules" "lawfulIn" "[Z", .fieldLink RX3 15 "TopTurned$Rules" "sorted" "[Z", .arrayClass .int, .fieldLink RX3 18 "TopTurned$Rules" "rank" "[I", .fieldLink RX3 22 "TopTurned$Rules" "told" "LTopTurned$Told;", .fieldLink RX3 26 "TopTurned$Rules" "space" "LTopTurned$Space;"] : List Cond) ++ (wsX30 ++ (([] : List Cond))))
theorem gd_k_X3_init : ∀ w ∈ sw_k_X3_init, (w.onTables && w.keeps) = true ∨ ∃ ty, w = .arrayClass ty := List.forall_mem_cons.mpr ⟨good_of_word rfl, List.forall_mem_append.mpr ⟨fun w h => good_of_word (List.all_eq_true.mp (by decide +kernel : (([.methodLink RX3 3 objectInit, .instanceMethod objectInit, .code objectInit ⟨#[0xb1]⟩ 1 none, .arrayClass .boolean, .fieldLink RX3 9 "TopTurned$Rules" "lawfulIn" "[Z", .fieldLink RX3 15 "TopTurned$Rules" "sorted" "[Z", .arrayClass .int, .fieldLink RX3 18 "TopTurned$Rules" "rank" "[I", .fieldLink RX3 22 "TopTurned$Rules" "told" "LTopTurned$Told;", .fieldLink RX3 26 "TopTurned$Rules" "space" "LTopTurned$Space;"] : List Cond)).all goodWord = true) w h), List.forall_mem_append.mpr ⟨gw_X3, fun _ h => absurd h List.not_mem_nil⟩⟩⟩
theorem iw_k_X3_init_X3 : ∀ w ∈ wsX30, w ∈ sw_k_X3_init := fun _ h => List.mem_cons_of_mem _ (List.mem_append_right _ (List.mem_append_left _ h))
set_option maxHeartbeats 4000000 in
set_option maxRecDepth 100000 in
theorem k_X3_init (l : Launch) (D : va_G) (cC cI cZ : ClassId) (h0 h1 h2 : Nat) (sz : Nat) : Met l yX3_init sw_k_X3_init ({ frames := 2, cells := 3, slots := 1925, locals := 100 }) (va_Pc [.ref h0, .ref h1, .ref h2] (kPre D cC cI cZ [(h0, .inr (3, [.null, .null, .null, .null, .null, .int 0]))] sz)) (va_Qv (fun (_ : Unit) => True) (fun _ t => ∃ (q1 q2 q3 : Nat), va_P D vwCl [(h0, .inr (3, [.ref h1, .ref h2, .ref q1, .ref q2, .ref q3, .int 0])), (q1, .inl (cZ, 1800, .inl (fun _ => 0))), (q2, .inl (cZ, 120, .inl (upd (fun _ => 0) (Int32.toNatClampNeg 0) (vp_nar .boolean 1)))), (q3, .inl (cI, 5, .inl (fun _ => 0)))] t.heap ∧ va_D (va_A [(h0, .inr (3, [.null, .null, .null, .null, .null, .int 0]))] sz) [(h0, .inr (3, [.ref h1, .ref h2, .ref q1, .ref q2, .ref q3, .int 0])), (q1, .inl (cZ, 1800, .inl (fun _ => 0))), (q2, .inl (cZ, 120, .inl (upd (fun _ => 0) (Int32.toNatClampNeg 0) (vp_nar .boolean 1)))), (q3, .inl (cI, 5, .inl (fun _ => 0)))]) (va_A [(h0, .inr (3, [.null, .null, .null, .null, .null, .int 0]))] sz)) 3 1925 (va_A [(h0, .inr (3, [.null, .null, .null, .null, .null, .int 0]))] sz) := by
  refine Met.ofW (cc := cX3_init) (maxL := 3) (ret := none) (by decide) rfl ?_
  intro p e s m args below meth c s₁ B hml hv
  obtain ⟨rfl, hsz, hP, hK, hD0⟩ := hv
  have hx := B.exec
  have hb := B.bytes
  have hr := B.returns
  have hts := atoms_spec (ws := sw_k_X3_init) B.pre
  have hown : s.vm.findClass RX3 = some m.cls := findClass_of_methodNamed B.named
  have hlocks := B.notSynchronized
  have hin : meth.name = "<init>" := (name_of_methodNamed B.named B.method).1
  subst hsz
  have hD := hD0.self (sz := s.heap.size)
  generalize hAe : va_A [(h0, .inr (3, [.null, .null, .null, .null, .null, .int 0]))] s.heap.size = A at hD ⊢
  have hA : ∀ q : Nat, s.heap.size ≤ q → A q := fun q h => by rw [← hAe]; exact Or.inr h
  have hS : va_S A s.heap s.heap [] := va_S.rf
  have hl := lv_entry ([.ref h0, .ref h1, .ref h2]) (n := 3) (Nat.le_of_ble_eq_true rfl)
  rw [lg_entry_eq]
  generalize (lg_sl ([.ref h0, .ref h1, .ref h2]) ++ List.replicate (3 - (lg_sl ([.ref h0, .ref h1, .ref h2])).length) Slot.unset).toArray = ls at hl ⊢
  have hl : lv_has ls 3 [(0, .ref h0), (1, .ref h1), (2, .ref h2)] := hl
  refine lv_aload_n hx hb dX3_init_0 rfl (lv_at hl 0 rfl) ?_
  refine W.objInit hx hb hown (hts (.methodLink RX3 3 objectInit) (by decide +kernel)) (hts (.instanceMethod objectInit) (by decide +kernel)) (hts _ (List.mem_cons_of_mem _ (List.mem_append_left _ (List.mem_of_getElem? (i := 2) rfl)))) rfl (by rw [hml]; exact hl.1) rfl dX3_init_1 (Nat.le_of_ble_eq_true rfl) (Nat.le_of_ble_eq_true rfl) ?_
  refine W.eq (g2 := F0 m 4 ls []) rfl ?_
  refine lv_aload_n hx hb dX3_init_4 rfl (lv_at hl 0 rfl) ?_
  refine lv_sipush (v := 1800) hx hb dX3_init_5 (by decide) ?_
  refine kn_newa (ty := .boolean) (n := 1800) (N' := 1800) (cA := cZ) (f := fun _ => 0) hx hb (hts (.arrayClass .boolean) (by decide +kernel)) rfl hK 2 rfl hP hD hS hA (fun _ => rfl) (by decide +kernel) (by decide +kernel) (by decide +kernel) (Nat.le_of_ble_eq_true rfl) (Nat.le_of_ble_eq_true rfl) dX3_init_8 (fun q1 H hP hD hS => ?_)
  have hP : va_P D vwCl [(h0, .inr (3, [.null, .null, .null, .null, .null, .int 0])), (q1, .inl (cZ, 1800, .inl (fun _ => 0)))] H := hP
  have hD : va_D A [(h0, .inr (3, [.null, .null, .null, .null, .null, .int 0])), (q1, .inl (cZ, 1800, .inl (fun _ => 0)))] := hD
  refine W.widen (k := 1) (n := 1800) (Nat.le_of_ble_eq_true rfl) (Nat.le_of_ble_eq_true rfl) ?_
  refine va_putF (D := D) (ci := 3) (v := .ref q1) (ty := .array .boolean) (C := RX3) (T := TX3) (N := 6) hx hb hts iw_k_X3_init_X3 tyX3 tyX3_ok nmX3 hown hK hP hD hS 0 rfl rfl 2 (by decide) (hts (.fieldLink RX3 9 "TopTurned$Rules" "lawfulIn" "[Z") (by decide +kernel)) (fun _ h9 => h9) rfl hin rfl (by decide +kernel) rfl rfl (Nat.le_of_ble_eq_true rfl) dX3_init_10 (fun H locs hP hD hS => ?_)
  have hP : va_P D vwCl [(h0, .inr (3, [.null, .null, .ref q1, .null, .null, .int 0])), (q1, .inl (cZ, 1800, .inl (fun _ => 0)))] H := hP
  have hD : va_D A [(h0, .inr (3, [.null, .null, .ref q1, .null, .null, .int 0])), (q1, .inl (cZ, 1800, .inl (fun _ => 0)))] := hD
  refine lv_aload_n hx hb dX3_init_13 rfl (lv_at hl 0 rfl) ?_
  refine lv_bipush (v := 120) hx hb dX3_init_14 (by decide) ?_
  refine kn_newa (ty := .boolean) (n := 120) (N' := 120) (cA := cZ) (f := fun _ => 0) hx hb (hts (.arrayClass .boolean) (by decide +kernel)) rfl hK 2 rfl hP hD hS hA (fun _ => rfl) (by decide +kernel) (by decide +kernel) (by decide +kernel) (Nat.le_of_ble_eq_true rfl) (Nat.le_of_ble_eq_true rfl) dX3_init_16 (fun q2 H hP hD hS => ?_)
  have hP : va_P D vwCl [(h0, .inr (3, [.null, .null, .ref q1, .null, .null, .int 0])), (q1, .inl (cZ, 1800, .inl (fun _ => 0))), (q2, .inl (cZ, 120, .inl (fun _ => 0)))] H := hP
  have hD : va_D A [(h0, .inr (3, [.null, .null, .ref q1, .null, .null, .int 0])), (q1, .inl (cZ, 1800, .inl (fun _ => 0))), (q2, .inl (cZ, 120, .inl (fun _ => 0)))] := hD
  refine W.widen (k := 2) (n := 1920) (Nat.le_of_ble_eq_true rfl) (Nat.le_of_ble_eq_true rfl) ?_
  refine va_putF (D := D) (ci := 3) (v := .ref q2) (ty := .array .boolean) (C := RX3) (T := TX3) (N := 6) hx hb hts iw_k_X3_init_X3 tyX3 tyX3_ok nmX3 hown hK hP hD hS 0 rfl rfl 3 (by decide) (hts (.fieldLink RX3 15 "TopTurned$Rules" "sorted" "[Z") (by decide +kernel)) (fun _ h9 => h9) rfl hin rfl (by decide +kernel) rfl rfl (Nat.le_of_ble_eq_true rfl) dX3_init_18 (fun H locs hP hD hS => ?_)
  have hP : va_P D vwCl [(h0, .inr (3, [.null, .null, .ref q1, .ref q2, .null, .int 0])), (q1, .inl (cZ, 1800, .inl (fun _ => 0))), (q2, .inl (cZ, 120, .inl (fun _ => 0)))] H := hP
  have hD : va_D A [(h0, .inr (3, [.null, .null, .ref q1, .ref q2, .null, .int 0])), (q1, .inl (cZ, 1800, .inl (fun _ => 0))), (q2, .inl (cZ, 120, .inl (fun _ => 0)))] := hD
  refine lv_aload_n hx hb dX3_init_21 rfl (lv_at hl 0 rfl) ?_
  refine lv_iconst (v := 5) hx hb dX3_init_22 (by decide) ?_
  refine kn_newa (ty := .int) (n := 5) (N' := 5) (cA := cI) (f := fun _ => 0) hx hb (hts (.arrayClass .int) (by decide +kernel)) rfl hK 1 rfl hP hD hS hA (fun _ => rfl) (by decide +kernel) (by decide +kernel) (by decide +kernel) (Nat.le_of_ble_eq_true rfl) (Nat.le_of_ble_eq_true rfl) dX3_init_23 (fun q3 H hP hD hS => ?_)
  have hP : va_P D vwCl [(h0, .inr (3, [.null, .null, .ref q1, .ref q2, .null, .int 0])), (q1, .inl (cZ, 1800, .inl (fun _ => 0))), (q2, .inl (cZ, 120, .inl (fun _ => 0))), (q3, .inl (cI, 5, .inl (fun _ => 0)))] H := hP
  have hD : va_D A [(h0, .inr (3, [.null, .null, .ref q1, .ref q2, .null, .int 0])), (q1, .inl (cZ, 1800, .inl (fun _ => 0))), (q2, .inl (cZ, 120, .inl (fun _ => 0))), (q3, .inl (cI, 5, .inl (fun _ => 0)))] := hD
  refine W.widen (k := 3) (n := 1925) (Nat.le_of_ble_eq_true rfl) (Nat.le_of_ble_eq_true rfl) ?_
  refine va_putF (D := D) (ci := 3) (v := .ref q3) (ty := .array .int) (C := RX3) (T := TX3) (N := 6) hx hb hts iw_k_X3_init_X3 tyX3 tyX3_ok nmX3 hown hK hP hD hS 0 rfl rfl 4 (by decide) (hts (.fieldLink RX3 18 "TopTurned$Rules" "rank" "[I") (by decide +kernel)) (fun _ h9 => h9) rfl hin rfl (by decide +kernel) rfl rfl (Nat.le_of_ble_eq_true rfl) dX3_init_25 (fun H locs hP hD hS => ?_)
  have hP : va_P D vwCl [(h0, .inr (3, [.null, .null, .ref q1, .ref q2, .ref q3, .int 0])), (q1, .inl (cZ, 1800, .inl (fun _ => 0))), (q2, .inl (cZ, 120, .inl (fun _ => 0))), (q3, .inl (cI, 5, .inl (fun _ => 0)))] H := hP
  have hD : va_D A [(h0, .inr (3, [.null, .null, .ref q1, .ref q2, .ref q3, .int 0])), (q1, .inl (cZ, 1800, .inl (fun _ => 0))), (q2, .inl (cZ, 120, .inl (fun _ => 0))), (q3, .inl (cI, 5, .inl (fun _ => 0)))] := hD
  refine lv_aload_n hx hb dX3_init_28 rfl (lv_at hl 0 rfl) ?_
  refine lv_aload_n hx hb dX3_init_29 rfl (lv_at hl 1 rfl) ?_
  refine va_putF (D := D) (ci := 3) (v := .ref h1) (ty := .object "TopTurned$Told") (C := RX3) (T := TX3) (N := 6) hx hb hts iw_k_X3_init_X3 tyX3 tyX3_ok nmX3 hown hK hP hD hS 0 rfl rfl 0 (by decide) (hts (.fieldLink RX3 22 "TopTurned$Rules" "told" "LTopTurned$Told;") (by decide +kernel)) (fun _ h9 => h9) rfl hin rfl (by decide +kernel) rfl rfl (Nat.le_of_ble_eq_true rfl) dX3_init_30 (fun H locs hP hD hS => ?_)
  have hP : va_P D vwCl [(h0, .inr (3, [.ref h1, .null, .ref q1, .ref q2, .ref q3, .int 0])), (q1, .inl (cZ, 1800, .inl (fun _ => 0))), (q2, .inl (cZ, 120, .inl (fun _ => 0))), (q3, .inl (cI, 5, .inl (fun _ => 0)))] H := hP
  have hD : va_D A [(h0, .inr (3, [.ref h1, .null, .ref q1, .ref q2, .ref q3, .int 0])), (q1, .inl (cZ, 1800, .inl (fun _ => 0))), (q2, .inl (cZ, 120, .inl (fun _ => 0))), (q3, .inl (cI, 5, .inl (fun _ => 0)))] := hD
  refine lv_aload_n hx hb dX3_init_33 rfl (lv_at hl 0 rfl) ?_
  refine lv_aload_n hx hb dX3_init_34 rfl (lv_at hl 2 rfl) ?_
  refine va_putF (D := D) (ci := 3) (v := .ref h2) (ty := .object "TopTurned$Space") (C := RX3) (T := TX3) (N := 6) hx hb hts iw_k_X3_init_X3 tyX3 tyX3_ok nmX3 hown hK hP hD hS 0 rfl rfl 1 (by decide) (hts (.fieldLink RX3 26 "TopTurned$Rules" "space" "LTopTurned$Space;") (by decide +kernel)) (fun _ h9 => h9) rfl hin rfl (by decide +kernel) rfl rfl (Nat.le_of_ble_eq_true rfl) dX3_init_35 (fun H locs hP hD hS => ?_)
  have hP : va_P D vwCl [(h0, .inr (3, [.ref h1, .ref h2, .ref q1, .ref q2, .ref q3, .int 0])), (q1, .inl (cZ, 1800, .inl (fun _ => 0))), (q2, .inl (cZ, 120, .inl (fun _ => 0))), (q3, .inl (cI, 5, .inl (fun _ => 0)))] H := hP
  have hD : va_D A [(h0, .inr (3, [.ref h1, .ref h2, .ref q1, .ref q2, .ref q3, .int 0])), (q1, .inl (cZ, 1800, .inl (fun _ => 0))), (q2, .inl (cZ, 120, .inl (fun _ => 0))), (q3, .inl (cI, 5, .inl (fun _ => 0)))] := hD
  refine lv_aload_n hx hb dX3_init_38 rfl (lv_at hl 0 rfl) ?_
  refine va_get (D := D) (ci := 3) (v := .ref q2) (C := RX3) (T := TX3) (N := 6) hx hb hts iw_k_X3_init_X3 hown hK hP 0 rfl rfl 3 (by decide) (hts (.fieldLink RX3 15 "TopTurned$Rules" "sorted" "[Z") (by decide +kernel)) (fun _ h9 => h9) rfl dX3_init_39 ?_
  refine lv_iconst (v := 0) hx hb dX3_init_42 (by decide) ?_
  refine lv_iconst (v := 1) hx hb dX3_init_43 (by decide) ?_
  refine va_zast (i := 0) (x := 1) hx hb hK hP hD hS 2 2 rfl rfl (vp_in_iff.mpr (by decide)) dX3_init_44 (fun H locs hP hD hS => ?_)
  have hP : va_P D vwCl [(h0, .inr (3, [.ref h1, .ref h2, .ref q1, .ref q2, .ref q3, .int 0])), (q1, .inl (cZ, 1800, .inl (fun _ => 0))), (q2, .inl (cZ, 120, .inl (upd (fun _ => 0) (Int32.toNatClampNeg 0) (vp_nar .boolean 1)))), (q3, .inl (cI, 5, .inl (fun _ => 0)))] H := hP
  have hD : va_D A [(h0, .inr (3, [.ref h1, .ref h2, .ref q1, .ref q2, .ref q3, .int 0])), (q1, .inl (cZ, 1800, .inl (fun _ => 0))), (q2, .inl (cZ, 120, .inl (upd (fun _ => 0) (Int32.toNatClampNeg 0) (vp_nar .boolean 1)))), (q3, .inl (cI, 5, .inl (fun _ => 0)))] := hD
  refine W.widen (k := 3) (n := 1925) (Nat.le_of_ble_eq_true rfl) (Nat.le_of_ble_eq_true rfl) ?_
  have hP9 := hP.sub (ws' := [(h0, .inr (3, [.ref h1, .ref h2, .ref q1, .ref q2, .ref q3, .int 0])), (q1, .inl (cZ, 1800, .inl (fun _ => 0))), (q2, .inl (cZ, 120, .inl (upd (fun _ => 0) (Int32.toNatClampNeg 0) (vp_nar .boolean 1)))), (q3, .inl (cI, 5, .inl (fun _ => 0)))]) [0, 1, 2, 3] rfl
  have hD9 := hD.sub (ws' := [(h0, .inr (3, [.ref h1, .ref h2, .ref q1, .ref q2, .ref q3, .int 0])), (q1, .inl (cZ, 1800, .inl (fun _ => 0))), (q2, .inl (cZ, 120, .inl (upd (fun _ => 0) (Int32.toNatClampNeg 0) (vp_nar .boolean 1)))), (q3, .inl (cI, 5, .inl (fun _ => 0)))]) [0, 1, 2, 3] (by decide) rfl
  exact W.vret hx hb hr (fun t ht hW => ⟨⟨(), rfl, trivial, ⟨q1, q2, q3, by rw [ht]; exact hP9, hD9⟩⟩, hS.F ht⟩) hS.2.2 dX3_init_45
def sw_k_X4_init : List Cond := .code yX4_init cX4_init 1 none :: (([.methodLink RX4 3 objectInit, .instanceMethod objectInit, .code objectInit ⟨#[0xb1]⟩ 1 none, .arrayClass .int, .fieldLink RX4 9 "TopTurned$Scratch" "queue" "[I", .fieldLink RX4 15 "TopTurned$Scratch" "first" "[I", .fieldLink RX4 18 "TopTurned$Scratch" "second" "[I"] : List Cond) ++ (wsX40 ++ (([] : List Cond))))
theorem gd_k_X4_init : ∀ w ∈ sw_k_X4_init, (w.onTables && w.keeps) = true ∨ ∃ ty, w = .arrayClass ty := List.forall_mem_cons.mpr ⟨good_of_word rfl, List.forall_mem_append.mpr ⟨fun w h => good_of_word (List.all_eq_true.mp (by decide +kernel : (([.methodLink RX4 3 objectInit, .instanceMethod objectInit, .code objectInit ⟨#[0xb1]⟩ 1 none, .arrayClass .int, .fieldLink RX4 9 "TopTurned$Scratch" "queue" "[I", .fieldLink RX4 15 "TopTurned$Scratch" "first" "[I", .fieldLink RX4 18 "TopTurned$Scratch" "second" "[I"] : List Cond)).all goodWord = true) w h), List.forall_mem_append.mpr ⟨gw_X4, fun _ h => absurd h List.not_mem_nil⟩⟩⟩
theorem iw_k_X4_init_X4 : ∀ w ∈ wsX40, w ∈ sw_k_X4_init := fun _ h => List.mem_cons_of_mem _ (List.mem_append_right _ (List.mem_append_left _ h))
set_option maxHeartbeats 4000000 in
set_option maxRecDepth 100000 in
theorem k_X4_init (l : Launch) (D : va_G) (cC cI cZ : ClassId) (h0 : Nat) (sz : Nat) : Met l yX4_init sw_k_X4_init ({ frames := 2, cells := 3, slots := 11520, locals := 100 }) (va_Pc [.ref h0] (kPre D cC cI cZ [(h0, .inr (4, [.null, .null, .null]))] sz)) (va_Qv (fun (_ : Unit) => True) (fun _ t => ∃ (q1 q2 q3 : Nat), va_P D vwCl [(h0, .inr (4, [.ref q1, .ref q2, .ref q3])), (q1, .inl (cI, 3840, .inl (fun _ => 0))), (q2, .inl (cI, 3840, .inl (fun _ => 0))), (q3, .inl (cI, 3840, .inl (fun _ => 0)))] t.heap ∧ va_D (va_A [(h0, .inr (4, [.null, .null, .null]))] sz) [(h0, .inr (4, [.ref q1, .ref q2, .ref q3])), (q1, .inl (cI, 3840, .inl (fun _ => 0))), (q2, .inl (cI, 3840, .inl (fun _ => 0))), (q3, .inl (cI, 3840, .inl (fun _ => 0)))]) (va_A [(h0, .inr (4, [.null, .null, .null]))] sz)) 3 11520 (va_A [(h0, .inr (4, [.null, .null, .null]))] sz) := by
  refine Met.ofW (cc := cX4_init) (maxL := 1) (ret := none) (by decide) rfl ?_
  intro p e s m args below meth c s₁ B hml hv
  obtain ⟨rfl, hsz, hP, hK, hD0⟩ := hv
  have hx := B.exec
  have hb := B.bytes
  have hr := B.returns
  have hts := atoms_spec (ws := sw_k_X4_init) B.pre
  have hown : s.vm.findClass RX4 = some m.cls := findClass_of_methodNamed B.named
  have hlocks := B.notSynchronized
  have hin : meth.name = "<init>" := (name_of_methodNamed B.named B.method).1
  subst hsz
  have hD := hD0.self (sz := s.heap.size)
  generalize hAe : va_A [(h0, .inr (4, [.null, .null, .null]))] s.heap.size = A at hD ⊢
  have hA : ∀ q : Nat, s.heap.size ≤ q → A q := fun q h => by rw [← hAe]; exact Or.inr h
  have hS : va_S A s.heap s.heap [] := va_S.rf
  have hl := lv_entry ([.ref h0]) (n := 1) (Nat.le_of_ble_eq_true rfl)
  rw [lg_entry_eq]
  generalize (lg_sl ([.ref h0]) ++ List.replicate (1 - (lg_sl ([.ref h0])).length) Slot.unset).toArray = ls at hl ⊢
  have hl : lv_has ls 1 [(0, .ref h0)] := hl
  refine lv_aload_n hx hb dX4_init_0 rfl (lv_at hl 0 rfl) ?_
  refine W.objInit hx hb hown (hts (.methodLink RX4 3 objectInit) (by decide +kernel)) (hts (.instanceMethod objectInit) (by decide +kernel)) (hts _ (List.mem_cons_of_mem _ (List.mem_append_left _ (List.mem_of_getElem? (i := 2) rfl)))) rfl (by rw [hml]; exact hl.1) rfl dX4_init_1 (Nat.le_of_ble_eq_true rfl) (Nat.le_of_ble_eq_true rfl) ?_
  refine W.eq (g2 := F0 m 4 ls []) rfl ?_
  refine lv_aload_n hx hb dX4_init_4 rfl (lv_at hl 0 rfl) ?_
  refine lv_sipush (v := 3840) hx hb dX4_init_5 (by decide) ?_
  refine kn_newa (ty := .int) (n := 3840) (N' := 3840) (cA := cI) (f := fun _ => 0) hx hb (hts (.arrayClass .int) (by decide +kernel)) rfl hK 1 rfl hP hD hS hA (fun _ => rfl) (by decide +kernel) (by decide +kernel) (by decide +kernel) (Nat.le_of_ble_eq_true rfl) (Nat.le_of_ble_eq_true rfl) dX4_init_8 (fun q1 H hP hD hS => ?_)
  have hP : va_P D vwCl [(h0, .inr (4, [.null, .null, .null])), (q1, .inl (cI, 3840, .inl (fun _ => 0)))] H := hP
  have hD : va_D A [(h0, .inr (4, [.null, .null, .null])), (q1, .inl (cI, 3840, .inl (fun _ => 0)))] := hD
  refine W.widen (k := 1) (n := 3840) (Nat.le_of_ble_eq_true rfl) (Nat.le_of_ble_eq_true rfl) ?_
  refine va_putF (D := D) (ci := 4) (v := .ref q1) (ty := .array .int) (C := RX4) (T := TX4) (N := 3) hx hb hts iw_k_X4_init_X4 tyX4 tyX4_ok nmX4 hown hK hP hD hS 0 rfl rfl 0 (by decide) (hts (.fieldLink RX4 9 "TopTurned$Scratch" "queue" "[I") (by decide +kernel)) (fun _ h9 => h9) rfl hin rfl (by decide +kernel) rfl rfl (Nat.le_of_ble_eq_true rfl) dX4_init_10 (fun H locs hP hD hS => ?_)
  have hP : va_P D vwCl [(h0, .inr (4, [.ref q1, .null, .null])), (q1, .inl (cI, 3840, .inl (fun _ => 0)))] H := hP
  have hD : va_D A [(h0, .inr (4, [.ref q1, .null, .null])), (q1, .inl (cI, 3840, .inl (fun _ => 0)))] := hD
  refine lv_aload_n hx hb dX4_init_13 rfl (lv_at hl 0 rfl) ?_
  refine lv_sipush (v := 3840) hx hb dX4_init_14 (by decide) ?_
  refine kn_newa (ty := .int) (n := 3840) (N' := 3840) (cA := cI) (f := fun _ => 0) hx hb (hts (.arrayClass .int) (by decide +kernel)) rfl hK 1 rfl hP hD hS hA (fun _ => rfl) (by decide +kernel) (by decide +kernel) (by decide +kernel) (Nat.le_of_ble_eq_true rfl) (Nat.le_of_ble_eq_true rfl) dX4_init_17 (fun q2 H hP hD hS => ?_)
  have hP : va_P D vwCl [(h0, .inr (4, [.ref q1, .null, .null])), (q1, .inl (cI, 3840, .inl (fun _ => 0))), (q2, .inl (cI, 3840, .inl (fun _ => 0)))] H := hP
  have hD : va_D A [(h0, .inr (4, [.ref q1, .null, .null])), (q1, .inl (cI, 3840, .inl (fun _ => 0))), (q2, .inl (cI, 3840, .inl (fun _ => 0)))] := hD
  refine W.widen (k := 2) (n := 7680) (Nat.le_of_ble_eq_true rfl) (Nat.le_of_ble_eq_true rfl) ?_
  refine va_putF (D := D) (ci := 4) (v := .ref q2) (ty := .array .int) (C := RX4) (T := TX4) (N := 3) hx hb hts iw_k_X4_init_X4 tyX4 tyX4_ok nmX4 hown hK hP hD hS 0 rfl rfl 1 (by decide) (hts (.fieldLink RX4 15 "TopTurned$Scratch" "first" "[I") (by decide +kernel)) (fun _ h9 => h9) rfl hin rfl (by decide +kernel) rfl rfl (Nat.le_of_ble_eq_true rfl) dX4_init_19 (fun H locs hP hD hS => ?_)
  have hP : va_P D vwCl [(h0, .inr (4, [.ref q1, .ref q2, .null])), (q1, .inl (cI, 3840, .inl (fun _ => 0))), (q2, .inl (cI, 3840, .inl (fun _ => 0)))] H := hP
  have hD : va_D A [(h0, .inr (4, [.ref q1, .ref q2, .null])), (q1, .inl (cI, 3840, .inl (fun _ => 0))), (q2, .inl (cI, 3840, .inl (fun _ => 0)))] := hD
  refine lv_aload_n hx hb dX4_init_22 rfl (lv_at hl 0 rfl) ?_
  refine lv_sipush (v := 3840) hx hb dX4_init_23 (by decide) ?_
  refine kn_newa (ty := .int) (n := 3840) (N' := 3840) (cA := cI) (f := fun _ => 0) hx hb (hts (.arrayClass .int) (by decide +kernel)) rfl hK 1 rfl hP hD hS hA (fun _ => rfl) (by decide +kernel) (by decide +kernel) (by decide +kernel) (Nat.le_of_ble_eq_true rfl) (Nat.le_of_ble_eq_true rfl) dX4_init_26 (fun q3 H hP hD hS => ?_)
  have hP : va_P D vwCl [(h0, .inr (4, [.ref q1, .ref q2, .null])), (q1, .inl (cI, 3840, .inl (fun _ => 0))), (q2, .inl (cI, 3840, .inl (fun _ => 0))), (q3, .inl (cI, 3840, .inl (fun _ => 0)))] H := hP
  have hD : va_D A [(h0, .inr (4, [.ref q1, .ref q2, .null])), (q1, .inl (cI, 3840, .inl (fun _ => 0))), (q2, .inl (cI, 3840, .inl (fun _ => 0))), (q3, .inl (cI, 3840, .inl (fun _ => 0)))] := hD
  refine W.widen (k := 3) (n := 11520) (Nat.le_of_ble_eq_true rfl) (Nat.le_of_ble_eq_true rfl) ?_
  refine va_putF (D := D) (ci := 4) (v := .ref q3) (ty := .array .int) (C := RX4) (T := TX4) (N := 3) hx hb hts iw_k_X4_init_X4 tyX4 tyX4_ok nmX4 hown hK hP hD hS 0 rfl rfl 2 (by decide) (hts (.fieldLink RX4 18 "TopTurned$Scratch" "second" "[I") (by decide +kernel)) (fun _ h9 => h9) rfl hin rfl (by decide +kernel) rfl rfl (Nat.le_of_ble_eq_true rfl) dX4_init_28 (fun H locs hP hD hS => ?_)
  have hP : va_P D vwCl [(h0, .inr (4, [.ref q1, .ref q2, .ref q3])), (q1, .inl (cI, 3840, .inl (fun _ => 0))), (q2, .inl (cI, 3840, .inl (fun _ => 0))), (q3, .inl (cI, 3840, .inl (fun _ => 0)))] H := hP
  have hD : va_D A [(h0, .inr (4, [.ref q1, .ref q2, .ref q3])), (q1, .inl (cI, 3840, .inl (fun _ => 0))), (q2, .inl (cI, 3840, .inl (fun _ => 0))), (q3, .inl (cI, 3840, .inl (fun _ => 0)))] := hD
  refine W.widen (k := 3) (n := 11520) (Nat.le_of_ble_eq_true rfl) (Nat.le_of_ble_eq_true rfl) ?_
  have hP9 := hP.sub (ws' := [(h0, .inr (4, [.ref q1, .ref q2, .ref q3])), (q1, .inl (cI, 3840, .inl (fun _ => 0))), (q2, .inl (cI, 3840, .inl (fun _ => 0))), (q3, .inl (cI, 3840, .inl (fun _ => 0)))]) [0, 1, 2, 3] rfl
  have hD9 := hD.sub (ws' := [(h0, .inr (4, [.ref q1, .ref q2, .ref q3])), (q1, .inl (cI, 3840, .inl (fun _ => 0))), (q2, .inl (cI, 3840, .inl (fun _ => 0))), (q3, .inl (cI, 3840, .inl (fun _ => 0)))]) [0, 1, 2, 3] (by decide) rfl
  exact W.vret hx hb hr (fun t ht hW => ⟨⟨(), rfl, trivial, ⟨q1, q2, q3, by rw [ht]; exact hP9, hD9⟩⟩, hS.F ht⟩) hS.2.2 dX4_init_31
def sw_k_X1_init : List Cond := .code yX1_init cX1_init 4 none :: (([.methodLink RX1 3 objectInit, .instanceMethod objectInit, .code objectInit ⟨#[0xb1]⟩ 1 none, .arrayClass .int, .fieldLink RX1 9 "TopTurned$Chart" "distance" "[I", .fieldLink RX1 15 "TopTurned$Chart" "rows" "[I", .fieldLink RX1 18 "TopTurned$Chart" "price" "[I", .fieldLink RX1 21 "TopTurned$Chart" "space" "LTopTurned$Space;", .fieldLink RX1 25 "TopTurned$Chart" "rules" "LTopTurned$Rules;", .fieldLink RX1 29 "TopTurned$Scratch" "queue" "[I", .fieldLink RX1 34 "TopTurned$Chart" "queue" "[I", .fieldLink RX1 35 "TopTurned$Scratch" "first" "[I", .fieldLink RX1 38 "TopTurned$Chart" "waiting" "[I"] : List Cond) ++ (wsX10 ++ (wsX40 ++ (([] : List Cond)))))
theorem gd_k_X1_init : ∀ w ∈ sw_k_X1_init, (w.onTables && w.keeps) = true ∨ ∃ ty, w = .arrayClass ty := List.forall_mem_cons.mpr ⟨good_of_word rfl, List.forall_mem_append.mpr ⟨fun w h => good_of_word (List.all_eq_true.mp (by decide +kernel : (([.methodLink RX1 3 objectInit, .instanceMethod objectInit, .code objectInit ⟨#[0xb1]⟩ 1 none, .arrayClass .int, .fieldLink RX1 9 "TopTurned$Chart" "distance" "[I", .fieldLink RX1 15 "TopTurned$Chart" "rows" "[I", .fieldLink RX1 18 "TopTurned$Chart" "price" "[I", .fieldLink RX1 21 "TopTurned$Chart" "space" "LTopTurned$Space;", .fieldLink RX1 25 "TopTurned$Chart" "rules" "LTopTurned$Rules;", .fieldLink RX1 29 "TopTurned$Scratch" "queue" "[I", .fieldLink RX1 34 "TopTurned$Chart" "queue" "[I", .fieldLink RX1 35 "TopTurned$Scratch" "first" "[I", .fieldLink RX1 38 "TopTurned$Chart" "waiting" "[I"] : List Cond)).all goodWord = true) w h), List.forall_mem_append.mpr ⟨gw_X1, List.forall_mem_append.mpr ⟨gw_X4, fun _ h => absurd h List.not_mem_nil⟩⟩⟩⟩
theorem iw_k_X1_init_X1 : ∀ w ∈ wsX10, w ∈ sw_k_X1_init := fun _ h => List.mem_cons_of_mem _ (List.mem_append_right _ (List.mem_append_left _ h))
theorem iw_k_X1_init_X4 : ∀ w ∈ wsX40, w ∈ sw_k_X1_init := fun _ h => List.mem_cons_of_mem _ (List.mem_append_right _ (List.mem_append_right _ (List.mem_append_left _ h)))
set_option maxHeartbeats 4000000 in
set_option maxRecDepth 100000 in
theorem k_X1_init (l : Launch) (D : va_G) (cC cI cZ : ClassId) (h0 h1 h2 h3 h4 h5 h6 : Nat) (sz : Nat) : Met l yX1_init sw_k_X1_init ({ frames := 2, cells := 3, slots := 11520, locals := 100 }) (va_Pc [.ref h0, .ref h1, .ref h2, .ref h3] (kPre D cC cI cZ [(h0, .inr (1, [.null, .null, .null, .null, .null, .null, .null, .int 0, .int 0])), (h3, .inr (4, [.ref h4, .ref h5, .ref h6]))] sz)) (va_Qv (fun (_ : Unit) => True) (fun _ t => ∃ (q1 q2 q3 : Nat), va_P D vwCl [(h0, .inr (1, [.ref h1, .ref h2, .ref h4, .ref h5, .ref q1, .ref q2, .ref q3, .int 0, .int 0])), (h3, .inr (4, [.ref h4, .ref h5, .ref h6])), (q1, .inl (cI, 3840, .inl (fun _ => 0))), (q2, .inl (cI, 3840, .inl (fun _ => 0))), (q3, .inl (cI, 3840, .inl (fun _ => 0)))] t.heap ∧ va_D (va_A [(h0, .inr (1, [.null, .null, .null, .null, .null, .null, .null, .int 0, .int 0])), (h3, .inr (4, [.ref h4, .ref h5, .ref h6]))] sz) [(h0, .inr (1, [.ref h1, .ref h2, .ref h4, .ref h5, .ref q1, .ref q2, .ref q3, .int 0, .int 0])), (h3, .inr (4, [.ref h4, .ref h5, .ref h6])), (q1, .inl (cI, 3840, .inl (fun _ => 0))), (q2, .inl (cI, 3840, .inl (fun _ => 0))), (q3, .inl (cI, 3840, .inl (fun _ => 0)))]) (va_A [(h0, .inr (1, [.null, .null, .null, .null, .null, .null, .null, .int 0, .int 0])), (h3, .inr (4, [.ref h4, .ref h5, .ref h6]))] sz)) 3 11520 (va_A [(h0, .inr (1, [.null, .null, .null, .null, .null, .null, .null, .int 0, .int 0])), (h3, .inr (4, [.ref h4, .ref h5, .ref h6]))] sz) := by
  refine Met.ofW (cc := cX1_init) (maxL := 4) (ret := none) (by decide) rfl ?_
  intro p e s m args below meth c s₁ B hml hv
  obtain ⟨rfl, hsz, hP, hK, hD0⟩ := hv
  have hx := B.exec
  have hb := B.bytes
  have hr := B.returns
  have hts := atoms_spec (ws := sw_k_X1_init) B.pre
  have hown : s.vm.findClass RX1 = some m.cls := findClass_of_methodNamed B.named
  have hlocks := B.notSynchronized
  have hin : meth.name = "<init>" := (name_of_methodNamed B.named B.method).1
  subst hsz
  have hD := hD0.self (sz := s.heap.size)
  generalize hAe : va_A [(h0, .inr (1, [.null, .null, .null, .null, .null, .null, .null, .int 0, .int 0])), (h3, .inr (4, [.ref h4, .ref h5, .ref h6]))] s.heap.size = A at hD ⊢
  have hA : ∀ q : Nat, s.heap.size ≤ q → A q := fun q h => by rw [← hAe]; exact Or.inr h
  have hS : va_S A s.heap s.heap [] := va_S.rf
  have hl := lv_entry ([.ref h0, .ref h1, .ref h2, .ref h3]) (n := 4) (Nat.le_of_ble_eq_true rfl)
  rw [lg_entry_eq]
  generalize (lg_sl ([.ref h0, .ref h1, .ref h2, .ref h3]) ++ List.replicate (4 - (lg_sl ([.ref h0, .ref h1, .ref h2, .ref h3])).length) Slot.unset).toArray = ls at hl ⊢
  have hl : lv_has ls 4 [(0, .ref h0), (1, .ref h1), (2, .ref h2), (3, .ref h3)] := hl
  refine lv_aload_n hx hb dX1_init_0 rfl (lv_at hl 0 rfl) ?_
  refine W.objInit hx hb hown (hts (.methodLink RX1 3 objectInit) (by decide +kernel)) (hts (.instanceMethod objectInit) (by decide +kernel)) (hts _ (List.mem_cons_of_mem _ (List.mem_append_left _ (List.mem_of_getElem? (i := 2) rfl)))) rfl (by rw [hml]; exact hl.1) rfl dX1_init_1 (Nat.le_of_ble_eq_true rfl) (Nat.le_of_ble_eq_true rfl) ?_
  refine W.eq (g2 := F0 m 4 ls []) rfl ?_
  refine lv_aload_n hx hb dX1_init_4 rfl (lv_at hl 0 rfl) ?_
  refine lv_sipush (v := 3840) hx hb dX1_init_5 (by decide) ?_
  refine kn_newa (ty := .int) (n := 3840) (N' := 3840) (cA := cI) (f := fun _ => 0) hx hb (hts (.arrayClass .int) (by decide +kernel)) rfl hK 1 rfl hP hD hS hA (fun _ => rfl) (by decide +kernel) (by decide +kernel) (by decide +kernel) (Nat.le_of_ble_eq_true rfl) (Nat.le_of_ble_eq_true rfl) dX1_init_8 (fun q1 H hP hD hS => ?_)
  have hP : va_P D vwCl [(h0, .inr (1, [.null, .null, .null, .null, .null, .null, .null, .int 0, .int 0])), (h3, .inr (4, [.ref h4, .ref h5, .ref h6])), (q1, .inl (cI, 3840, .inl (fun _ => 0)))] H := hP
  have hD : va_D A [(h0, .inr (1, [.null, .null, .null, .null, .null, .null, .null, .int 0, .int 0])), (h3, .inr (4, [.ref h4, .ref h5, .ref h6])), (q1, .inl (cI, 3840, .inl (fun _ => 0)))] := hD
  refine W.widen (k := 1) (n := 3840) (Nat.le_of_ble_eq_true rfl) (Nat.le_of_ble_eq_true rfl) ?_
  refine va_putF (D := D) (ci := 1) (v := .ref q1) (ty := .array .int) (C := RX1) (T := TX1) (N := 9) hx hb hts iw_k_X1_init_X1 tyX1 tyX1_ok nmX1 hown hK hP hD hS 0 rfl rfl 4 (by decide) (hts (.fieldLink RX1 9 "TopTurned$Chart" "distance" "[I") (by decide +kernel)) (fun _ h9 => h9) rfl hin rfl (by decide +kernel) rfl rfl (Nat.le_of_ble_eq_true rfl) dX1_init_10 (fun H locs hP hD hS => ?_)
  have hP : va_P D vwCl [(h0, .inr (1, [.null, .null, .null, .null, .ref q1, .null, .null, .int 0, .int 0])), (h3, .inr (4, [.ref h4, .ref h5, .ref h6])), (q1, .inl (cI, 3840, .inl (fun _ => 0)))] H := hP
  have hD : va_D A [(h0, .inr (1, [.null, .null, .null, .null, .ref q1, .null, .null, .int 0, .int 0])), (h3, .inr (4, [.ref h4, .ref h5, .ref h6])), (q1, .inl (cI, 3840, .inl (fun _ => 0)))] := hD
  refine lv_aload_n hx hb dX1_init_13 rfl (lv_at hl 0 rfl) ?_
  refine lv_sipush (v := 3840) hx hb dX1_init_14 (by decide) ?_
  refine kn_newa (ty := .int) (n := 3840) (N' := 3840) (cA := cI) (f := fun _ => 0) hx hb (hts (.arrayClass .int) (by decide +kernel)) rfl hK 1 rfl hP hD hS hA (fun _ => rfl) (by decide +kernel) (by decide +kernel) (by decide +kernel) (Nat.le_of_ble_eq_true rfl) (Nat.le_of_ble_eq_true rfl) dX1_init_17 (fun q2 H hP hD hS => ?_)
  have hP : va_P D vwCl [(h0, .inr (1, [.null, .null, .null, .null, .ref q1, .null, .null, .int 0, .int 0])), (h3, .inr (4, [.ref h4, .ref h5, .ref h6])), (q1, .inl (cI, 3840, .inl (fun _ => 0))), (q2, .inl (cI, 3840, .inl (fun _ => 0)))] H := hP
  have hD : va_D A [(h0, .inr (1, [.null, .null, .null, .null, .ref q1, .null, .null, .int 0, .int 0])), (h3, .inr (4, [.ref h4, .ref h5, .ref h6])), (q1, .inl (cI, 3840, .inl (fun _ => 0))), (q2, .inl (cI, 3840, .inl (fun _ => 0)))] := hD
  refine W.widen (k := 2) (n := 7680) (Nat.le_of_ble_eq_true rfl) (Nat.le_of_ble_eq_true rfl) ?_
  refine va_putF (D := D) (ci := 1) (v := .ref q2) (ty := .array .int) (C := RX1) (T := TX1) (N := 9) hx hb hts iw_k_X1_init_X1 tyX1 tyX1_ok nmX1 hown hK hP hD hS 0 rfl rfl 5 (by decide) (hts (.fieldLink RX1 15 "TopTurned$Chart" "rows" "[I") (by decide +kernel)) (fun _ h9 => h9) rfl hin rfl (by decide +kernel) rfl rfl (Nat.le_of_ble_eq_true rfl) dX1_init_19 (fun H locs hP hD hS => ?_)
  have hP : va_P D vwCl [(h0, .inr (1, [.null, .null, .null, .null, .ref q1, .ref q2, .null, .int 0, .int 0])), (h3, .inr (4, [.ref h4, .ref h5, .ref h6])), (q1, .inl (cI, 3840, .inl (fun _ => 0))), (q2, .inl (cI, 3840, .inl (fun _ => 0)))] H := hP
  have hD : va_D A [(h0, .inr (1, [.null, .null, .null, .null, .ref q1, .ref q2, .null, .int 0, .int 0])), (h3, .inr (4, [.ref h4, .ref h5, .ref h6])), (q1, .inl (cI, 3840, .inl (fun _ => 0))), (q2, .inl (cI, 3840, .inl (fun _ => 0)))] := hD
  refine lv_aload_n hx hb dX1_init_22 rfl (lv_at hl 0 rfl) ?_
  refine lv_sipush (v := 3840) hx hb dX1_init_23 (by decide) ?_
  refine kn_newa (ty := .int) (n := 3840) (N' := 3840) (cA := cI) (f := fun _ => 0) hx hb (hts (.arrayClass .int) (by decide +kernel)) rfl hK 1 rfl hP hD hS hA (fun _ => rfl) (by decide +kernel) (by decide +kernel) (by decide +kernel) (Nat.le_of_ble_eq_true rfl) (Nat.le_of_ble_eq_true rfl) dX1_init_26 (fun q3 H hP hD hS => ?_)
  have hP : va_P D vwCl [(h0, .inr (1, [.null, .null, .null, .null, .ref q1, .ref q2, .null, .int 0, .int 0])), (h3, .inr (4, [.ref h4, .ref h5, .ref h6])), (q1, .inl (cI, 3840, .inl (fun _ => 0))), (q2, .inl (cI, 3840, .inl (fun _ => 0))), (q3, .inl (cI, 3840, .inl (fun _ => 0)))] H := hP
  have hD : va_D A [(h0, .inr (1, [.null, .null, .null, .null, .ref q1, .ref q2, .null, .int 0, .int 0])), (h3, .inr (4, [.ref h4, .ref h5, .ref h6])), (q1, .inl (cI, 3840, .inl (fun _ => 0))), (q2, .inl (cI, 3840, .inl (fun _ => 0))), (q3, .inl (cI, 3840, .inl (fun _ => 0)))] := hD
  refine W.widen (k := 3) (n := 11520) (Nat.le_of_ble_eq_true rfl) (Nat.le_of_ble_eq_true rfl) ?_
  refine va_putF (D := D) (ci := 1) (v := .ref q3) (ty := .array .int) (C := RX1) (T := TX1) (N := 9) hx hb hts iw_k_X1_init_X1 tyX1 tyX1_ok nmX1 hown hK hP hD hS 0 rfl rfl 6 (by decide) (hts (.fieldLink RX1 18 "TopTurned$Chart" "price" "[I") (by decide +kernel)) (fun _ h9 => h9) rfl hin rfl (by decide +kernel) rfl rfl (Nat.le_of_ble_eq_true rfl) dX1_init_28 (fun H locs hP hD hS => ?_)
  have hP : va_P D vwCl [(h0, .inr (1, [.null, .null, .null, .null, .ref q1, .ref q2, .ref q3, .int 0, .int 0])), (h3, .inr (4, [.ref h4, .ref h5, .ref h6])), (q1, .inl (cI, 3840, .inl (fun _ => 0))), (q2, .inl (cI, 3840, .inl (fun _ => 0))), (q3, .inl (cI, 3840, .inl (fun _ => 0)))] H := hP
  have hD : va_D A [(h0, .inr (1, [.null, .null, .null, .null, .ref q1, .ref q2, .ref q3, .int 0, .int 0])), (h3, .inr (4, [.ref h4, .ref h5, .ref h6])), (q1, .inl (cI, 3840, .inl (fun _ => 0))), (q2, .inl (cI, 3840, .inl (fun _ => 0))), (q3, .inl (cI, 3840, .inl (fun _ => 0)))] := hD
  refine lv_aload_n hx hb dX1_init_31 rfl (lv_at hl 0 rfl) ?_
  refine lv_aload_n hx hb dX1_init_32 rfl (lv_at hl 1 rfl) ?_
  refine va_putF (D := D) (ci := 1) (v := .ref h1) (ty := .object "TopTurned$Space") (C := RX1) (T := TX1) (N := 9) hx hb hts iw_k_X1_init_X1 tyX1 tyX1_ok nmX1 hown hK hP hD hS 0 rfl rfl 0 (by decide) (hts (.fieldLink RX1 21 "TopTurned$Chart" "space" "LTopTurned$Space;") (by decide +kernel)) (fun _ h9 => h9) rfl hin rfl (by decide +kernel) rfl rfl (Nat.le_of_ble_eq_true rfl) dX1_init_33 (fun H locs hP hD hS => ?_)
  have hP : va_P D vwCl [(h0, .inr (1, [.ref h1, .null, .null, .null, .ref q1, .ref q2, .ref q3, .int 0, .int 0])), (h3, .inr (4, [.ref h4, .ref h5, .ref h6])), (q1, .inl (cI, 3840, .inl (fun _ => 0))), (q2, .inl (cI, 3840, .inl (fun _ => 0))), (q3, .inl (cI, 3840, .inl (fun _ => 0)))] H := hP
  have hD : va_D A [(h0, .inr (1, [.ref h1, .null, .null, .null, .ref q1, .ref q2, .ref q3, .int 0, .int 0])), (h3, .inr (4, [.ref h4, .ref h5, .ref h6])), (q1, .inl (cI, 3840, .inl (fun _ => 0))), (q2, .inl (cI, 3840, .inl (fun _ => 0))), (q3, .inl (cI, 3840, .inl (fun _ => 0)))] := hD
  refine lv_aload_n hx hb dX1_init_36 rfl (lv_at hl 0 rfl) ?_
  refine lv_aload_n hx hb dX1_init_37 rfl (lv_at hl 2 rfl) ?_
  refine va_putF (D := D) (ci := 1) (v := .ref h2) (ty := .object "TopTurned$Rules") (C := RX1) (T := TX1) (N := 9) hx hb hts iw_k_X1_init_X1 tyX1 tyX1_ok nmX1 hown hK hP hD hS 0 rfl rfl 1 (by decide) (hts (.fieldLink RX1 25 "TopTurned$Chart" "rules" "LTopTurned$Rules;") (by decide +kernel)) (fun _ h9 => h9) rfl hin rfl (by decide +kernel) rfl rfl (Nat.le_of_ble_eq_true rfl) dX1_init_38 (fun H locs hP hD hS => ?_)
  have hP : va_P D vwCl [(h0, .inr (1, [.ref h1, .ref h2, .null, .null, .ref q1, .ref q2, .ref q3, .int 0, .int 0])), (h3, .inr (4, [.ref h4, .ref h5, .ref h6])), (q1, .inl (cI, 3840, .inl (fun _ => 0))), (q2, .inl (cI, 3840, .inl (fun _ => 0))), (q3, .inl (cI, 3840, .inl (fun _ => 0)))] H := hP
  have hD : va_D A [(h0, .inr (1, [.ref h1, .ref h2, .null, .null, .ref q1, .ref q2, .ref q3, .int 0, .int 0])), (h3, .inr (4, [.ref h4, .ref h5, .ref h6])), (q1, .inl (cI, 3840, .inl (fun _ => 0))), (q2, .inl (cI, 3840, .inl (fun _ => 0))), (q3, .inl (cI, 3840, .inl (fun _ => 0)))] := hD
  refine lv_aload_n hx hb dX1_init_41 rfl (lv_at hl 0 rfl) ?_
  refine lv_aload_n hx hb dX1_init_42 rfl (lv_at hl 3 rfl) ?_
  refine va_get (D := D) (ci := 4) (v := .ref h4) (C := RX4) (T := TX4) (N := 3) hx hb hts iw_k_X1_init_X4 hown hK hP 1 rfl rfl 0 (by decide) (hts (.fieldLink RX1 29 "TopTurned$Scratch" "queue" "[I") (by decide +kernel)) (fun _ h9 => h9) rfl dX1_init_43 ?_
  refine va_putF (D := D) (ci := 1) (v := .ref h4) (ty := .array .int) (C := RX1) (T := TX1) (N := 9) hx hb hts iw_k_X1_init_X1 tyX1 tyX1_ok nmX1 hown hK hP hD hS 0 rfl rfl 2 (by decide) (hts (.fieldLink RX1 34 "TopTurned$Chart" "queue" "[I") (by decide +kernel)) (fun _ h9 => h9) rfl hin rfl (by decide +kernel) rfl rfl (Nat.le_of_ble_eq_true rfl) dX1_init_46 (fun H locs hP hD hS => ?_)
  have hP : va_P D vwCl [(h0, .inr (1, [.ref h1, .ref h2, .ref h4, .null, .ref q1, .ref q2, .ref q3, .int 0, .int 0])), (h3, .inr (4, [.ref h4, .ref h5, .ref h6])), (q1, .inl (cI, 3840, .inl (fun _ => 0))), (q2, .inl (cI, 3840, .inl (fun _ => 0))), (q3, .inl (cI, 3840, .inl (fun _ => 0)))] H := hP
  have hD : va_D A [(h0, .inr (1, [.ref h1, .ref h2, .ref h4, .null, .ref q1, .ref q2, .ref q3, .int 0, .int 0])), (h3, .inr (4, [.ref h4, .ref h5, .ref h6])), (q1, .inl (cI, 3840, .inl (fun _ => 0))), (q2, .inl (cI, 3840, .inl (fun _ => 0))), (q3, .inl (cI, 3840, .inl (fun _ => 0)))] := hD
  refine lv_aload_n hx hb dX1_init_49 rfl (lv_at hl 0 rfl) ?_
  refine lv_aload_n hx hb dX1_init_50 rfl (lv_at hl 3 rfl) ?_
  refine va_get (D := D) (ci := 4) (v := .ref h5) (C := RX4) (T := TX4) (N := 3) hx hb hts iw_k_X1_init_X4 hown hK hP 1 rfl rfl 1 (by decide) (hts (.fieldLink RX1 35 "TopTurned$Scratch" "first" "[I") (by decide +kernel)) (fun _ h9 => h9) rfl dX1_init_51 ?_
  refine va_putF (D := D) (ci := 1) (v := .ref h5) (ty := .array .int) (C := RX1) (T := TX1) (N := 9) hx hb hts iw_k_X1_init_X1 tyX1 tyX1_ok nmX1 hown hK hP hD hS 0 rfl rfl 3 (by decide) (hts (.fieldLink RX1 38 "TopTurned$Chart" "waiting" "[I") (by decide +kernel)) (fun _ h9 => h9) rfl hin rfl (by decide +kernel) rfl rfl (Nat.le_of_ble_eq_true rfl) dX1_init_54 (fun H locs hP hD hS => ?_)
  have hP : va_P D vwCl [(h0, .inr (1, [.ref h1, .ref h2, .ref h4, .ref h5, .ref q1, .ref q2, .ref q3, .int 0, .int 0])), (h3, .inr (4, [.ref h4, .ref h5, .ref h6])), (q1, .inl (cI, 3840, .inl (fun _ => 0))), (q2, .inl (cI, 3840, .inl (fun _ => 0))), (q3, .inl (cI, 3840, .inl (fun _ => 0)))] H := hP
  have hD : va_D A [(h0, .inr (1, [.ref h1, .ref h2, .ref h4, .ref h5, .ref q1, .ref q2, .ref q3, .int 0, .int 0])), (h3, .inr (4, [.ref h4, .ref h5, .ref h6])), (q1, .inl (cI, 3840, .inl (fun _ => 0))), (q2, .inl (cI, 3840, .inl (fun _ => 0))), (q3, .inl (cI, 3840, .inl (fun _ => 0)))] := hD
  refine W.widen (k := 3) (n := 11520) (Nat.le_of_ble_eq_true rfl) (Nat.le_of_ble_eq_true rfl) ?_
  have hP9 := hP.sub (ws' := [(h0, .inr (1, [.ref h1, .ref h2, .ref h4, .ref h5, .ref q1, .ref q2, .ref q3, .int 0, .int 0])), (h3, .inr (4, [.ref h4, .ref h5, .ref h6])), (q1, .inl (cI, 3840, .inl (fun _ => 0))), (q2, .inl (cI, 3840, .inl (fun _ => 0))), (q3, .inl (cI, 3840, .inl (fun _ => 0)))]) [0, 1, 2, 3, 4] rfl
  have hD9 := hD.sub (ws' := [(h0, .inr (1, [.ref h1, .ref h2, .ref h4, .ref h5, .ref q1, .ref q2, .ref q3, .int 0, .int 0])), (h3, .inr (4, [.ref h4, .ref h5, .ref h6])), (q1, .inl (cI, 3840, .inl (fun _ => 0))), (q2, .inl (cI, 3840, .inl (fun _ => 0))), (q3, .inl (cI, 3840, .inl (fun _ => 0)))]) [0, 1, 2, 3, 4] (by decide) rfl
  exact W.vret hx hb hr (fun t ht hW => ⟨⟨(), rfl, trivial, ⟨q1, q2, q3, by rw [ht]; exact hP9, hD9⟩⟩, hS.F ht⟩) hS.2.2 dX1_init_57
def sw_k_X8_init : List Cond := .code yX8_init cX8_init 5 none :: (([.methodLink RX8 3 objectInit, .instanceMethod objectInit, .code objectInit ⟨#[0xb1]⟩ 1 none, .fieldLink RX8 9 "TopTurned$Walks" "space" "LTopTurned$Space;", .fieldLink RX8 15 "TopTurned$Walks" "rules" "LTopTurned$Rules;", .fieldLink RX8 19 "TopTurned$Walks" "chart" "LTopTurned$Chart;", .fieldLink RX8 23 "TopTurned$Scratch" "queue" "[I", .fieldLink RX8 29 "TopTurned$Walks" "queue" "[I", .fieldLink RX8 30 "TopTurned$Scratch" "first" "[I", .fieldLink RX8 33 "TopTurned$Walks" "first" "[I", .fieldLink RX8 34 "TopTurned$Scratch" "second" "[I", .fieldLink RX8 37 "TopTurned$Walks" "second" "[I"] : List Cond) ++ (wsX80 ++ (wsX40 ++ (([] : List Cond)))))
theorem gd_k_X8_init : ∀ w ∈ sw_k_X8_init, (w.onTables && w.keeps) = true ∨ ∃ ty, w = .arrayClass ty := List.forall_mem_cons.mpr ⟨good_of_word rfl, List.forall_mem_append.mpr ⟨fun w h => good_of_word (List.all_eq_true.mp (by decide +kernel : (([.methodLink RX8 3 objectInit, .instanceMethod objectInit, .code objectInit ⟨#[0xb1]⟩ 1 none, .fieldLink RX8 9 "TopTurned$Walks" "space" "LTopTurned$Space;", .fieldLink RX8 15 "TopTurned$Walks" "rules" "LTopTurned$Rules;", .fieldLink RX8 19 "TopTurned$Walks" "chart" "LTopTurned$Chart;", .fieldLink RX8 23 "TopTurned$Scratch" "queue" "[I", .fieldLink RX8 29 "TopTurned$Walks" "queue" "[I", .fieldLink RX8 30 "TopTurned$Scratch" "first" "[I", .fieldLink RX8 33 "TopTurned$Walks" "first" "[I", .fieldLink RX8 34 "TopTurned$Scratch" "second" "[I", .fieldLink RX8 37 "TopTurned$Walks" "second" "[I"] : List Cond)).all goodWord = true) w h), List.forall_mem_append.mpr ⟨gw_X8, List.forall_mem_append.mpr ⟨gw_X4, fun _ h => absurd h List.not_mem_nil⟩⟩⟩⟩
theorem iw_k_X8_init_X8 : ∀ w ∈ wsX80, w ∈ sw_k_X8_init := fun _ h => List.mem_cons_of_mem _ (List.mem_append_right _ (List.mem_append_left _ h))
theorem iw_k_X8_init_X4 : ∀ w ∈ wsX40, w ∈ sw_k_X8_init := fun _ h => List.mem_cons_of_mem _ (List.mem_append_right _ (List.mem_append_right _ (List.mem_append_left _ h)))
set_option maxHeartbeats 4000000 in
set_option maxRecDepth 100000 in
theorem k_X8_init (l : Launch) (D : va_G) (cC cI cZ : ClassId) (h0 h1 h2 h3 h4 h5 h6 h7 : Nat) (sz : Nat) : Met l yX8_init sw_k_X8_init ({ frames := 2, cells := 0, slots := 0, locals := 100 }) (va_Pc [.ref h0, .ref h1, .ref h2, .ref h3, .ref h4] (kPre D cC cI cZ [(h0, .inr (8, [.null, .null, .null, .null, .null, .null])), (h4, .inr (4, [.ref h5, .ref h6, .ref h7]))] sz)) (va_Qv (fun (_ : Unit) => True) (fun _ t => va_P D vwCl [(h0, .inr (8, [.ref h1, .ref h2, .ref h3, .ref h5, .ref h6, .ref h7])), (h4, .inr (4, [.ref h5, .ref h6, .ref h7]))] t.heap ∧ va_D (va_A [(h0, .inr (8, [.null, .null, .null, .null, .null, .null])), (h4, .inr (4, [.ref h5, .ref h6, .ref h7]))] sz) [(h0, .inr (8, [.ref h1, .ref h2, .ref h3, .ref h5, .ref h6, .ref h7])), (h4, .inr (4, [.ref h5, .ref h6, .ref h7]))]) (va_A [(h0, .inr (8, [.null, .null, .null, .null, .null, .null])), (h4, .inr (4, [.ref h5, .ref h6, .ref h7]))] sz)) 0 0 (va_A [(h0, .inr (8, [.null, .null, .null, .null, .null, .null])), (h4, .inr (4, [.ref h5, .ref h6, .ref h7]))] sz) := by
  refine Met.ofW (cc := cX8_init) (maxL := 5) (ret := none) (by decide) rfl ?_
  intro p e s m args below meth c s₁ B hml hv
  obtain ⟨rfl, hsz, hP, hK, hD0⟩ := hv
  have hx := B.exec
  have hb := B.bytes
  have hr := B.returns
  have hts := atoms_spec (ws := sw_k_X8_init) B.pre
  have hown : s.vm.findClass RX8 = some m.cls := findClass_of_methodNamed B.named
  have hlocks := B.notSynchronized
  have hin : meth.name = "<init>" := (name_of_methodNamed B.named B.method).1
  subst hsz
  have hD := hD0.self (sz := s.heap.size)
  generalize hAe : va_A [(h0, .inr (8, [.null, .null, .null, .null, .null, .null])), (h4, .inr (4, [.ref h5, .ref h6, .ref h7]))] s.heap.size = A at hD ⊢
  have hA : ∀ q : Nat, s.heap.size ≤ q → A q := fun q h => by rw [← hAe]; exact Or.inr h
  have hS : va_S A s.heap s.heap [] := va_S.rf
  have hl := lv_entry ([.ref h0, .ref h1, .ref h2, .ref h3, .ref h4]) (n := 5) (Nat.le_of_ble_eq_true rfl)
  rw [lg_entry_eq]
  generalize (lg_sl ([.ref h0, .ref h1, .ref h2, .ref h3, .ref h4]) ++ List.replicate (5 - (lg_sl ([.ref h0, .ref h1, .ref h2, .ref h3, .ref h4])).length) Slot.unset).toArray = ls at hl ⊢
  have hl : lv_has ls 5 [(0, .ref h0), (1, .ref h1), (2, .ref h2), (3, .ref h3), (4, .ref h4)] := hl
  refine lv_aload_n hx hb dX8_init_0 rfl (lv_at hl 0 rfl) ?_
  refine W.objInit hx hb hown (hts (.methodLink RX8 3 objectInit) (by decide +kernel)) (hts (.instanceMethod objectInit) (by decide +kernel)) (hts _ (List.mem_cons_of_mem _ (List.mem_append_left _ (List.mem_of_getElem? (i := 2) rfl)))) rfl (by rw [hml]; exact hl.1) rfl dX8_init_1 (Nat.le_of_ble_eq_true rfl) (Nat.le_of_ble_eq_true rfl) ?_
  refine W.eq (g2 := F0 m 4 ls []) rfl ?_
  refine lv_aload_n hx hb dX8_init_4 rfl (lv_at hl 0 rfl) ?_
  refine lv_aload_n hx hb dX8_init_5 rfl (lv_at hl 1 rfl) ?_
  refine va_putF (D := D) (ci := 8) (v := .ref h1) (ty := .object "TopTurned$Space") (C := RX8) (T := TX8) (N := 6) hx hb hts iw_k_X8_init_X8 tyX8 tyX8_ok nmX8 hown hK hP hD hS 0 rfl rfl 0 (by decide) (hts (.fieldLink RX8 9 "TopTurned$Walks" "space" "LTopTurned$Space;") (by decide +kernel)) (fun _ h9 => h9) rfl hin rfl (by decide +kernel) rfl rfl (Nat.le_of_ble_eq_true rfl) dX8_init_6 (fun H locs hP hD hS => ?_)
  have hP : va_P D vwCl [(h0, .inr (8, [.ref h1, .null, .null, .null, .null, .null])), (h4, .inr (4, [.ref h5, .ref h6, .ref h7]))] H := hP
  have hD : va_D A [(h0, .inr (8, [.ref h1, .null, .null, .null, .null, .null])), (h4, .inr (4, [.ref h5, .ref h6, .ref h7]))] := hD
  refine lv_aload_n hx hb dX8_init_9 rfl (lv_at hl 0 rfl) ?_
  refine lv_aload_n hx hb dX8_init_10 rfl (lv_at hl 2 rfl) ?_
  refine va_putF (D := D) (ci := 8) (v := .ref h2) (ty := .object "TopTurned$Rules") (C := RX8) (T := TX8) (N := 6) hx hb hts iw_k_X8_init_X8 tyX8 tyX8_ok nmX8 hown hK hP hD hS 0 rfl rfl 1 (by decide) (hts (.fieldLink RX8 15 "TopTurned$Walks" "rules" "LTopTurned$Rules;") (by decide +kernel)) (fun _ h9 => h9) rfl hin rfl (by decide +kernel) rfl rfl (Nat.le_of_ble_eq_true rfl) dX8_init_11 (fun H locs hP hD hS => ?_)
  have hP : va_P D vwCl [(h0, .inr (8, [.ref h1, .ref h2, .null, .null, .null, .null])), (h4, .inr (4, [.ref h5, .ref h6, .ref h7]))] H := hP
  have hD : va_D A [(h0, .inr (8, [.ref h1, .ref h2, .null, .null, .null, .null])), (h4, .inr (4, [.ref h5, .ref h6, .ref h7]))] := hD
  refine lv_aload_n hx hb dX8_init_14 rfl (lv_at hl 0 rfl) ?_
  refine lv_aload_n hx hb dX8_init_15 rfl (lv_at hl 3 rfl) ?_
  refine va_putF (D := D) (ci := 8) (v := .ref h3) (ty := .object "TopTurned$Chart") (C := RX8) (T := TX8) (N := 6) hx hb hts iw_k_X8_init_X8 tyX8 tyX8_ok nmX8 hown hK hP hD hS 0 rfl rfl 2 (by decide) (hts (.fieldLink RX8 19 "TopTurned$Walks" "chart" "LTopTurned$Chart;") (by decide +kernel)) (fun _ h9 => h9) rfl hin rfl (by decide +kernel) rfl rfl (Nat.le_of_ble_eq_true rfl) dX8_init_16 (fun H locs hP hD hS => ?_)
  have hP : va_P D vwCl [(h0, .inr (8, [.ref h1, .ref h2, .ref h3, .null, .null, .null])), (h4, .inr (4, [.ref h5, .ref h6, .ref h7]))] H := hP
  have hD : va_D A [(h0, .inr (8, [.ref h1, .ref h2, .ref h3, .null, .null, .null])), (h4, .inr (4, [.ref h5, .ref h6, .ref h7]))] := hD
  refine lv_aload_n hx hb dX8_init_19 rfl (lv_at hl 0 rfl) ?_
  refine lv_aload hx hb dX8_init_20 (lv_at hl 4 rfl) ?_
  refine va_get (D := D) (ci := 4) (v := .ref h5) (C := RX4) (T := TX4) (N := 3) hx hb hts iw_k_X8_init_X4 hown hK hP 1 rfl rfl 0 (by decide) (hts (.fieldLink RX8 23 "TopTurned$Scratch" "queue" "[I") (by decide +kernel)) (fun _ h9 => h9) rfl dX8_init_22 ?_
  refine va_putF (D := D) (ci := 8) (v := .ref h5) (ty := .array .int) (C := RX8) (T := TX8) (N := 6) hx hb hts iw_k_X8_init_X8 tyX8 tyX8_ok nmX8 hown hK hP hD hS 0 rfl rfl 3 (by decide) (hts (.fieldLink RX8 29 "TopTurned$Walks" "queue" "[I") (by decide +kernel)) (fun _ h9 => h9) rfl hin rfl (by decide +kernel) rfl rfl (Nat.le_of_ble_eq_true rfl) dX8_init_25 (fun H locs hP hD hS => ?_)
  have hP : va_P D vwCl [(h0, .inr (8, [.ref h1, .ref h2, .ref h3, .ref h5, .null, .null])), (h4, .inr (4, [.ref h5, .ref h6, .ref h7]))] H := hP
  have hD : va_D A [(h0, .inr (8, [.ref h1, .ref h2, .ref h3, .ref h5, .null, .null])), (h4, .inr (4, [.ref h5, .ref h6, .ref h7]))] := hD
  refine lv_aload_n hx hb dX8_init_28 rfl (lv_at hl 0 rfl) ?_
  refine lv_aload hx hb dX8_init_29 (lv_at hl 4 rfl) ?_
  refine va_get (D := D) (ci := 4) (v := .ref h6) (C := RX4) (T := TX4) (N := 3) hx hb hts iw_k_X8_init_X4 hown hK hP 1 rfl rfl 1 (by decide) (hts (.fieldLink RX8 30 "TopTurned$Scratch" "first" "[I") (by decide +kernel)) (fun _ h9 => h9) rfl dX8_init_31 ?_
  refine va_putF (D := D) (ci := 8) (v := .ref h6) (ty := .array .int) (C := RX8) (T := TX8) (N := 6) hx hb hts iw_k_X8_init_X8 tyX8 tyX8_ok nmX8 hown hK hP hD hS 0 rfl rfl 4 (by decide) (hts (.fieldLink RX8 33 "TopTurned$Walks" "first" "[I") (by decide +kernel)) (fun _ h9 => h9) rfl hin rfl (by decide +kernel) rfl rfl (Nat.le_of_ble_eq_true rfl) dX8_init_34 (fun H locs hP hD hS => ?_)
  have hP : va_P D vwCl [(h0, .inr (8, [.ref h1, .ref h2, .ref h3, .ref h5, .ref h6, .null])), (h4, .inr (4, [.ref h5, .ref h6, .ref h7]))] H := hP
  have hD : va_D A [(h0, .inr (8, [.ref h1, .ref h2, .ref h3, .ref h5, .ref h6, .null])), (h4, .inr (4, [.ref h5, .ref h6, .ref h7]))] := hD
  refine lv_aload_n hx hb dX8_init_37 rfl (lv_at hl 0 rfl) ?_
  refine lv_aload hx hb dX8_init_38 (lv_at hl 4 rfl) ?_
  refine va_get (D := D) (ci := 4) (v := .ref h7) (C := RX4) (T := TX4) (N := 3) hx hb hts iw_k_X8_init_X4 hown hK hP 1 rfl rfl 2 (by decide) (hts (.fieldLink RX8 34 "TopTurned$Scratch" "second" "[I") (by decide +kernel)) (fun _ h9 => h9) rfl dX8_init_40 ?_
  refine va_putF (D := D) (ci := 8) (v := .ref h7) (ty := .array .int) (C := RX8) (T := TX8) (N := 6) hx hb hts iw_k_X8_init_X8 tyX8 tyX8_ok nmX8 hown hK hP hD hS 0 rfl rfl 5 (by decide) (hts (.fieldLink RX8 37 "TopTurned$Walks" "second" "[I") (by decide +kernel)) (fun _ h9 => h9) rfl hin rfl (by decide +kernel) rfl rfl (Nat.le_of_ble_eq_true rfl) dX8_init_43 (fun H locs hP hD hS => ?_)
  have hP : va_P D vwCl [(h0, .inr (8, [.ref h1, .ref h2, .ref h3, .ref h5, .ref h6, .ref h7])), (h4, .inr (4, [.ref h5, .ref h6, .ref h7]))] H := hP
  have hD : va_D A [(h0, .inr (8, [.ref h1, .ref h2, .ref h3, .ref h5, .ref h6, .ref h7])), (h4, .inr (4, [.ref h5, .ref h6, .ref h7]))] := hD
  refine W.widen (k := 0) (n := 0) (Nat.le_of_ble_eq_true rfl) (Nat.le_of_ble_eq_true rfl) ?_
  have hP9 := hP.sub (ws' := [(h0, .inr (8, [.ref h1, .ref h2, .ref h3, .ref h5, .ref h6, .ref h7])), (h4, .inr (4, [.ref h5, .ref h6, .ref h7]))]) [0, 1] rfl
  have hD9 := hD.sub (ws' := [(h0, .inr (8, [.ref h1, .ref h2, .ref h3, .ref h5, .ref h6, .ref h7])), (h4, .inr (4, [.ref h5, .ref h6, .ref h7]))]) [0, 1] (by decide) rfl
  exact W.vret hx hb hr (fun t ht hW => ⟨⟨(), rfl, trivial, ⟨by rw [ht]; exact hP9, hD9⟩⟩, hS.F ht⟩) hS.2.2 dX8_init_46
def sw_k_X7_init : List Cond := .code yX7_init cX7_init 4 none :: (([.methodLink RX7 3 objectInit, .instanceMethod objectInit, .code objectInit ⟨#[0xb1]⟩ 1 none, .fieldLink RX7 9 "TopTurned$Waiters" "space" "LTopTurned$Space;", .fieldLink RX7 15 "TopTurned$Waiters" "rules" "LTopTurned$Rules;", .fieldLink RX7 19 "TopTurned$Waiters" "chart" "LTopTurned$Chart;"] : List Cond) ++ (wsX70 ++ (([] : List Cond))))
theorem gd_k_X7_init : ∀ w ∈ sw_k_X7_init, (w.onTables && w.keeps) = true ∨ ∃ ty, w = .arrayClass ty := List.forall_mem_cons.mpr ⟨good_of_word rfl, List.forall_mem_append.mpr ⟨fun w h => good_of_word (List.all_eq_true.mp (by decide +kernel : (([.methodLink RX7 3 objectInit, .instanceMethod objectInit, .code objectInit ⟨#[0xb1]⟩ 1 none, .fieldLink RX7 9 "TopTurned$Waiters" "space" "LTopTurned$Space;", .fieldLink RX7 15 "TopTurned$Waiters" "rules" "LTopTurned$Rules;", .fieldLink RX7 19 "TopTurned$Waiters" "chart" "LTopTurned$Chart;"] : List Cond)).all goodWord = true) w h), List.forall_mem_append.mpr ⟨gw_X7, fun _ h => absurd h List.not_mem_nil⟩⟩⟩
theorem iw_k_X7_init_X7 : ∀ w ∈ wsX70, w ∈ sw_k_X7_init := fun _ h => List.mem_cons_of_mem _ (List.mem_append_right _ (List.mem_append_left _ h))
set_option maxHeartbeats 4000000 in
set_option maxRecDepth 100000 in
theorem k_X7_init (l : Launch) (D : va_G) (cC cI cZ : ClassId) (h0 h1 h2 h3 : Nat) (sz : Nat) : Met l yX7_init sw_k_X7_init ({ frames := 2, cells := 0, slots := 0, locals := 100 }) (va_Pc [.ref h0, .ref h1, .ref h2, .ref h3] (kPre D cC cI cZ [(h0, .inr (7, [.null, .null, .null]))] sz)) (va_Qv (fun (_ : Unit) => True) (fun _ t => va_P D vwCl [(h0, .inr (7, [.ref h1, .ref h2, .ref h3]))] t.heap ∧ va_D (va_A [(h0, .inr (7, [.null, .null, .null]))] sz) [(h0, .inr (7, [.ref h1, .ref h2, .ref h3]))]) (va_A [(h0, .inr (7, [.null, .null, .null]))] sz)) 0 0 (va_A [(h0, .inr (7, [.null, .null, .null]))] sz) := by
  refine Met.ofW (cc := cX7_init) (maxL := 4) (ret := none) (by decide) rfl ?_
  intro p e s m args below meth c s₁ B hml hv
  obtain ⟨rfl, hsz, hP, hK, hD0⟩ := hv
  have hx := B.exec
  have hb := B.bytes
  have hr := B.returns
  have hts := atoms_spec (ws := sw_k_X7_init) B.pre
  have hown : s.vm.findClass RX7 = some m.cls := findClass_of_methodNamed B.named
  have hlocks := B.notSynchronized
  have hin : meth.name = "<init>" := (name_of_methodNamed B.named B.method).1
  subst hsz
  have hD := hD0.self (sz := s.heap.size)
  generalize hAe : va_A [(h0, .inr (7, [.null, .null, .null]))] s.heap.size = A at hD ⊢
  have hA : ∀ q : Nat, s.heap.size ≤ q → A q := fun q h => by rw [← hAe]; exact Or.inr h
  have hS : va_S A s.heap s.heap [] := va_S.rf
  have hl := lv_entry ([.ref h0, .ref h1, .ref h2, .ref h3]) (n := 4) (Nat.le_of_ble_eq_true rfl)
  rw [lg_entry_eq]
  generalize (lg_sl ([.ref h0, .ref h1, .ref h2, .ref h3]) ++ List.replicate (4 - (lg_sl ([.ref h0, .ref h1, .ref h2, .ref h3])).length) Slot.unset).toArray = ls at hl ⊢
  have hl : lv_has ls 4 [(0, .ref h0), (1, .ref h1), (2, .ref h2), (3, .ref h3)] := hl
  refine lv_aload_n hx hb dX7_init_0 rfl (lv_at hl 0 rfl) ?_
  refine W.objInit hx hb hown (hts (.methodLink RX7 3 objectInit) (by decide +kernel)) (hts (.instanceMethod objectInit) (by decide +kernel)) (hts _ (List.mem_cons_of_mem _ (List.mem_append_left _ (List.mem_of_getElem? (i := 2) rfl)))) rfl (by rw [hml]; exact hl.1) rfl dX7_init_1 (Nat.le_of_ble_eq_true rfl) (Nat.le_of_ble_eq_true rfl) ?_
  refine W.eq (g2 := F0 m 4 ls []) rfl ?_
  refine lv_aload_n hx hb dX7_init_4 rfl (lv_at hl 0 rfl) ?_
  refine lv_aload_n hx hb dX7_init_5 rfl (lv_at hl 1 rfl) ?_
  refine va_putF (D := D) (ci := 7) (v := .ref h1) (ty := .object "TopTurned$Space") (C := RX7) (T := TX7) (N := 3) hx hb hts iw_k_X7_init_X7 tyX7 tyX7_ok nmX7 hown hK hP hD hS 0 rfl rfl 0 (by decide) (hts (.fieldLink RX7 9 "TopTurned$Waiters" "space" "LTopTurned$Space;") (by decide +kernel)) (fun _ h9 => h9) rfl hin rfl (by decide +kernel) rfl rfl (Nat.le_of_ble_eq_true rfl) dX7_init_6 (fun H locs hP hD hS => ?_)
  have hP : va_P D vwCl [(h0, .inr (7, [.ref h1, .null, .null]))] H := hP
  have hD : va_D A [(h0, .inr (7, [.ref h1, .null, .null]))] := hD
  refine lv_aload_n hx hb dX7_init_9 rfl (lv_at hl 0 rfl) ?_
  refine lv_aload_n hx hb dX7_init_10 rfl (lv_at hl 2 rfl) ?_
  refine va_putF (D := D) (ci := 7) (v := .ref h2) (ty := .object "TopTurned$Rules") (C := RX7) (T := TX7) (N := 3) hx hb hts iw_k_X7_init_X7 tyX7 tyX7_ok nmX7 hown hK hP hD hS 0 rfl rfl 1 (by decide) (hts (.fieldLink RX7 15 "TopTurned$Waiters" "rules" "LTopTurned$Rules;") (by decide +kernel)) (fun _ h9 => h9) rfl hin rfl (by decide +kernel) rfl rfl (Nat.le_of_ble_eq_true rfl) dX7_init_11 (fun H locs hP hD hS => ?_)
  have hP : va_P D vwCl [(h0, .inr (7, [.ref h1, .ref h2, .null]))] H := hP
  have hD : va_D A [(h0, .inr (7, [.ref h1, .ref h2, .null]))] := hD
  refine lv_aload_n hx hb dX7_init_14 rfl (lv_at hl 0 rfl) ?_
  refine lv_aload_n hx hb dX7_init_15 rfl (lv_at hl 3 rfl) ?_
  refine va_putF (D := D) (ci := 7) (v := .ref h3) (ty := .object "TopTurned$Chart") (C := RX7) (T := TX7) (N := 3) hx hb hts iw_k_X7_init_X7 tyX7 tyX7_ok nmX7 hown hK hP hD hS 0 rfl rfl 2 (by decide) (hts (.fieldLink RX7 19 "TopTurned$Waiters" "chart" "LTopTurned$Chart;") (by decide +kernel)) (fun _ h9 => h9) rfl hin rfl (by decide +kernel) rfl rfl (Nat.le_of_ble_eq_true rfl) dX7_init_16 (fun H locs hP hD hS => ?_)
  have hP : va_P D vwCl [(h0, .inr (7, [.ref h1, .ref h2, .ref h3]))] H := hP
  have hD : va_D A [(h0, .inr (7, [.ref h1, .ref h2, .ref h3]))] := hD
  refine W.widen (k := 0) (n := 0) (Nat.le_of_ble_eq_true rfl) (Nat.le_of_ble_eq_true rfl) ?_
  have hP9 := hP.sub (ws' := [(h0, .inr (7, [.ref h1, .ref h2, .ref h3]))]) [0] rfl
  have hD9 := hD.sub (ws' := [(h0, .inr (7, [.ref h1, .ref h2, .ref h3]))]) [0] (by decide) rfl
  exact W.vret hx hb hr (fun t ht hW => ⟨⟨(), rfl, trivial, ⟨by rw [ht]; exact hP9, hD9⟩⟩, hS.F ht⟩) hS.2.2 dX7_init_19
