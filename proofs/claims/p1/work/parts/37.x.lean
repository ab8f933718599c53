def sw_k_X9_count : List Cond := .code yX9_count cX9_count 2 (some .int) :: (([.fieldLink RX9 10 "TopTurned" "now" "LTopTurned$Told;", .fieldLink RX9 115 "TopTurned$Told" "plates" "I", .fieldLink RX9 236 "TopTurned$Told" "sightCount" "I", .fieldLink RX9 124 "TopTurned$Told" "law" "I", .fieldLink RX9 245 "TopTurned$Told" "limit" "I", .fieldLink RX9 248 "TopTurned$Told" "keptPlate" "I", .fieldLink RX9 251 "TopTurned$Told" "burntMatters" "Z", .fieldLink RX9 146 "TopTurned$Told" "spent" "I", .fieldLink RX9 192 "TopTurned$Told" "rowCount" "I", .fieldLink RX9 98 "TopTurned$Told" "letterCount" "I", .fieldLink RX9 47 "TopTurned" "rules" "LTopTurned$Rules;", .fieldLink RX9 38 "TopTurned" "space" "LTopTurned$Space;", .fieldLink RX9 118 "TopTurned$Told" "heap" "[I", .methodLink RX9 131 yX5_orderOf, .instanceMethod yX5_orderOf, .selects RX5 yX5_orderOf yX5_orderOf, .initialized RX5, .methodLink RX9 254 yX3_howManyLawful, .instanceMethod yX3_howManyLawful, .selects RX3 yX3_howManyLawful yX3_howManyLawful, .initialized RX3, .fieldLink RX9 90 "TopTurned" "refusals" "[I"] : List Cond) ++ (wsX90 ++ (wsX60 ++ (sw_k_X5_orderOf ++ (sw_k_X3_howManyLawful ++ (([] : List Cond)))))))
theorem gd_k_X9_count : ∀ w ∈ sw_k_X9_count, (w.onTables && w.keeps) = true ∨ ∃ ty, w = .arrayClass ty := List.forall_mem_cons.mpr ⟨good_of_word rfl, List.forall_mem_append.mpr ⟨fun w h => good_of_word (List.all_eq_true.mp (by decide +kernel : (([.fieldLink RX9 10 "TopTurned" "now" "LTopTurned$Told;", .fieldLink RX9 115 "TopTurned$Told" "plates" "I", .fieldLink RX9 236 "TopTurned$Told" "sightCount" "I", .fieldLink RX9 124 "TopTurned$Told" "law" "I", .fieldLink RX9 245 "TopTurned$Told" "limit" "I", .fieldLink RX9 248 "TopTurned$Told" "keptPlate" "I", .fieldLink RX9 251 "TopTurned$Told" "burntMatters" "Z", .fieldLink RX9 146 "TopTurned$Told" "spent" "I", .fieldLink RX9 192 "TopTurned$Told" "rowCount" "I", .fieldLink RX9 98 "TopTurned$Told" "letterCount" "I", .fieldLink RX9 47 "TopTurned" "rules" "LTopTurned$Rules;", .fieldLink RX9 38 "TopTurned" "space" "LTopTurned$Space;", .fieldLink RX9 118 "TopTurned$Told" "heap" "[I", .methodLink RX9 131 yX5_orderOf, .instanceMethod yX5_orderOf, .selects RX5 yX5_orderOf yX5_orderOf, .initialized RX5, .methodLink RX9 254 yX3_howManyLawful, .instanceMethod yX3_howManyLawful, .selects RX3 yX3_howManyLawful yX3_howManyLawful, .initialized RX3, .fieldLink RX9 90 "TopTurned" "refusals" "[I"] : List Cond)).all goodWord = true) w h), List.forall_mem_append.mpr ⟨gw_X9, List.forall_mem_append.mpr ⟨gw_X6, List.forall_mem_append.mpr ⟨gd_k_X5_orderOf, List.forall_mem_append.mpr ⟨gd_k_X3_howManyLawful, fun _ h => absurd h List.not_mem_nil⟩⟩⟩⟩⟩⟩
theorem iw_k_X9_count_X9 : ∀ w ∈ wsX90, w ∈ sw_k_X9_count := fun _ h => List.mem_cons_of_mem _ (List.mem_append_right _ (List.mem_append_left _ h))
theorem iw_k_X9_count_X6 : ∀ w ∈ wsX60, w ∈ sw_k_X9_count := fun _ h => List.mem_cons_of_mem _ (List.mem_append_right _ (List.mem_append_right _ (List.mem_append_left _ h)))
theorem gc_k_X9_count_k_X5_orderOf : GoodIn sw_k_X9_count sw_k_X5_orderOf := fun w h => ⟨List.mem_cons_of_mem _ (List.mem_append_right _ (List.mem_append_right _ (List.mem_append_right _ (List.mem_append_left _ h)))), gd_k_X5_orderOf w h⟩
theorem gc_k_X9_count_k_X3_howManyLawful : GoodIn sw_k_X9_count sw_k_X3_howManyLawful := fun w h => ⟨List.mem_cons_of_mem _ (List.mem_append_right _ (List.mem_append_right _ (List.mem_append_right _ (List.mem_append_right _ (List.mem_append_left _ h))))), gd_k_X3_howManyLawful w h⟩
set_option maxHeartbeats 4000000 in
set_option maxRecDepth 100000 in
theorem k_X9_count (l : Launch) (D : va_G) (cC cI cZ : ClassId) (h0 h1 h2 h3 h4 h5 h6 h7 h8 h9 h10 h11 h12 h13 h14 h15 h16 h17 h18 h19 h20 h21 h22 h23 h24 h25 h26 : Nat) (sz : Nat) (p1 : Int32) : Met l yX9_count sw_k_X9_count ({ frames := 4, cells := 0, slots := 0, locals := 200 }) (va_Pc [.ref h0, .int p1] (kPre D cC cI cZ [(h0, .inr (9, [.ref h1, .ref h5, .ref h6, .int 0, .ref h7, .ref h2, .ref h3, .ref h8, .ref h9, .ref h10, .ref h11, .ref h4])), (h1, .inr (6, [.int 0, .ref h12, .ref h13, .int 0, .int 5, .int 9, .int 0, .int 1, .int 0, .int 0, .ref h14, .ref h15, .int 0, .ref h16, .int 0, .ref h17, .int 0])), (h2, .inr (5, [.int 0, .int 1, .int 1, .int 1, .int 0, .ref h18, .ref h19, .ref h20, .ref h21, .ref h22, .ref h23])), (h3, .inr (3, [.ref h1, .ref h2, .ref h24, .ref h25, .ref h26, .int 0])), (h4, .inl (cI, 7, .inl (fun _ => 0)))] sz)) (va_Qi (fun (r : Int32) (_ : Unit) => r = (if p1 = 0 then 0 else (if p1 = 1 then 0 else (if p1 = 2 then 0 else (if p1 = 3 then 5 else (if p1 = 4 then 9 else (if p1 = 5 then 0 else (if p1 = 6 then 0 else (if p1 = 7 then 0 else (if p1 = 8 then 0 else (if p1 = 9 then 0 else (if p1 = 10 then (-9) else (if p1 = 11 then 0 else (if p1 = 12 then 0 else (if p1 = 13 then 0 else (if p1 = 14 then 0 else (if p1 = 15 then 0 else (if p1 = 16 then 0 else (-9))))))))))))))))))) (fun _ _ => True) (fun _ => False)) 0 0 (fun _ => False) := by
  refine Met.ofW (cc := cX9_count) (maxL := 2) (ret := (some .int)) (by decide) rfl ?_
  intro p e s m args below meth c s₁ B hml hv
  obtain ⟨rfl, hsz, hP, hK, hD0⟩ := hv
  have hx := B.exec
  have hb := B.bytes
  have hr := B.returns
  have hts := atoms_spec (ws := sw_k_X9_count) B.pre
  have hown : s.vm.findClass RX9 = some m.cls := findClass_of_methodNamed B.named
  have hlocks := B.notSynchronized
  subst hsz
  have hD := hD0
  have hS : va_S (fun _ => False) s.heap s.heap [] := va_S.rf
  have hl := lv_entry ([.ref h0, .int p1]) (n := 2) (Nat.le_of_ble_eq_true rfl)
  rw [lg_entry_eq]
  generalize (lg_sl ([.ref h0, .int p1]) ++ List.replicate (2 - (lg_sl ([.ref h0, .int p1])).length) Slot.unset).toArray = ls at hl ⊢
  have hl : lv_has ls 2 [(0, .ref h0), (1, .int p1)] := hl
  rcases (ksp16 p1) with rfl | rfl | rfl | rfl | rfl | rfl | rfl | rfl | rfl | rfl | rfl | rfl | rfl | rfl | rfl | rfl | rfl | hlo | hhi
  · refine lv_iload_n hx hb dX9_count_0 rfl (lv_at hl 1 rfl) ?_
    refine lv_bipush (v := 11) hx hb dX9_count_1 (by decide) ?_
    refine lv_icmp_lt (tgt := 22) hx hb dX9_count_3 (by decide) (fun _ => ?_) (fun c => absurd (by decide) c)
    refine lv_iload_n hx hb dX9_count_22 rfl (lv_at hl 1 rfl) ?_
    refine lv_tableIn (off := 53) (tgt := 76) hx hb dX9_count_23 (by decide) (by decide) rfl (by decide) ?_
    refine lv_aload_n hx hb dX9_count_76 rfl (lv_at hl 0 rfl) ?_
    refine va_get (D := D) (ci := 9) (v := .ref h1) (C := RX9) (T := TX9) (N := 12) hx hb hts iw_k_X9_count_X9 hown hK hP 0 rfl rfl 0 (by decide) (hts (.fieldLink RX9 10 "TopTurned" "now" "LTopTurned$Told;") (by decide +kernel)) (fun _ h9 => h9) rfl dX9_count_77 ?_
    refine va_get (D := D) (ci := 6) (v := .int 0) (C := RX6) (T := TX6) (N := 17) hx hb hts iw_k_X9_count_X6 hown hK hP 1 rfl rfl 0 (by decide) (hts (.fieldLink RX9 115 "TopTurned$Told" "plates" "I") (by decide +kernel)) (fun _ h9 => h9) rfl dX9_count_80 ?_
    exact W.iret (v := 0) hx hb hr (fun t ht hW => ⟨⟨0, (), rfl, (by decide), trivial⟩, hS.F ht⟩) hS.2.2 dX9_count_83
  · refine lv_iload_n hx hb dX9_count_0 rfl (lv_at hl 1 rfl) ?_
    refine lv_bipush (v := 11) hx hb dX9_count_1 (by decide) ?_
    refine lv_icmp_lt (tgt := 22) hx hb dX9_count_3 (by decide) (fun _ => ?_) (fun c => absurd (by decide) c)
    refine lv_iload_n hx hb dX9_count_22 rfl (lv_at hl 1 rfl) ?_
    refine lv_tableIn (off := 61) (tgt := 84) hx hb dX9_count_23 (by decide) (by decide) rfl (by decide) ?_
    refine lv_aload_n hx hb dX9_count_84 rfl (lv_at hl 0 rfl) ?_
    refine va_get (D := D) (ci := 9) (v := .ref h1) (C := RX9) (T := TX9) (N := 12) hx hb hts iw_k_X9_count_X9 hown hK hP 0 rfl rfl 0 (by decide) (hts (.fieldLink RX9 10 "TopTurned" "now" "LTopTurned$Told;") (by decide +kernel)) (fun _ h9 => h9) rfl dX9_count_85 ?_
    refine va_get (D := D) (ci := 6) (v := .int 0) (C := RX6) (T := TX6) (N := 17) hx hb hts iw_k_X9_count_X6 hown hK hP 1 rfl rfl 9 (by decide) (hts (.fieldLink RX9 236 "TopTurned$Told" "sightCount" "I") (by decide +kernel)) (fun _ h9 => h9) rfl dX9_count_88 ?_
    exact W.iret (v := 0) hx hb hr (fun t ht hW => ⟨⟨0, (), rfl, (by decide), trivial⟩, hS.F ht⟩) hS.2.2 dX9_count_91
  · refine lv_iload_n hx hb dX9_count_0 rfl (lv_at hl 1 rfl) ?_
    refine lv_bipush (v := 11) hx hb dX9_count_1 (by decide) ?_
    refine lv_icmp_lt (tgt := 22) hx hb dX9_count_3 (by decide) (fun _ => ?_) (fun c => absurd (by decide) c)
    refine lv_iload_n hx hb dX9_count_22 rfl (lv_at hl 1 rfl) ?_
    refine lv_tableIn (off := 69) (tgt := 92) hx hb dX9_count_23 (by decide) (by decide) rfl (by decide) ?_
    refine lv_aload_n hx hb dX9_count_92 rfl (lv_at hl 0 rfl) ?_
    refine va_get (D := D) (ci := 9) (v := .ref h1) (C := RX9) (T := TX9) (N := 12) hx hb hts iw_k_X9_count_X9 hown hK hP 0 rfl rfl 0 (by decide) (hts (.fieldLink RX9 10 "TopTurned" "now" "LTopTurned$Told;") (by decide +kernel)) (fun _ h9 => h9) rfl dX9_count_93 ?_
    refine va_get (D := D) (ci := 6) (v := .int 0) (C := RX6) (T := TX6) (N := 17) hx hb hts iw_k_X9_count_X6 hown hK hP 1 rfl rfl 3 (by decide) (hts (.fieldLink RX9 124 "TopTurned$Told" "law" "I") (by decide +kernel)) (fun _ h9 => h9) rfl dX9_count_96 ?_
    exact W.iret (v := 0) hx hb hr (fun t ht hW => ⟨⟨0, (), rfl, (by decide), trivial⟩, hS.F ht⟩) hS.2.2 dX9_count_99
  · refine lv_iload_n hx hb dX9_count_0 rfl (lv_at hl 1 rfl) ?_
    refine lv_bipush (v := 11) hx hb dX9_count_1 (by decide) ?_
    refine lv_icmp_lt (tgt := 22) hx hb dX9_count_3 (by decide) (fun _ => ?_) (fun c => absurd (by decide) c)
    refine lv_iload_n hx hb dX9_count_22 rfl (lv_at hl 1 rfl) ?_
    refine lv_tableIn (off := 77) (tgt := 100) hx hb dX9_count_23 (by decide) (by decide) rfl (by decide) ?_
    refine lv_aload_n hx hb dX9_count_100 rfl (lv_at hl 0 rfl) ?_
    refine va_get (D := D) (ci := 9) (v := .ref h1) (C := RX9) (T := TX9) (N := 12) hx hb hts iw_k_X9_count_X9 hown hK hP 0 rfl rfl 0 (by decide) (hts (.fieldLink RX9 10 "TopTurned" "now" "LTopTurned$Told;") (by decide +kernel)) (fun _ h9 => h9) rfl dX9_count_101 ?_
    refine va_get (D := D) (ci := 6) (v := .int 5) (C := RX6) (T := TX6) (N := 17) hx hb hts iw_k_X9_count_X6 hown hK hP 1 rfl rfl 4 (by decide) (hts (.fieldLink RX9 245 "TopTurned$Told" "limit" "I") (by decide +kernel)) (fun _ h9 => h9) rfl dX9_count_104 ?_
    exact W.iret (v := 5) hx hb hr (fun t ht hW => ⟨⟨5, (), rfl, (by decide), trivial⟩, hS.F ht⟩) hS.2.2 dX9_count_107
  · refine lv_iload_n hx hb dX9_count_0 rfl (lv_at hl 1 rfl) ?_
    refine lv_bipush (v := 11) hx hb dX9_count_1 (by decide) ?_
    refine lv_icmp_lt (tgt := 22) hx hb dX9_count_3 (by decide) (fun _ => ?_) (fun c => absurd (by decide) c)
    refine lv_iload_n hx hb dX9_count_22 rfl (lv_at hl 1 rfl) ?_
    refine lv_tableIn (off := 85) (tgt := 108) hx hb dX9_count_23 (by decide) (by decide) rfl (by decide) ?_
    refine lv_aload_n hx hb dX9_count_108 rfl (lv_at hl 0 rfl) ?_
    refine va_get (D := D) (ci := 9) (v := .ref h1) (C := RX9) (T := TX9) (N := 12) hx hb hts iw_k_X9_count_X9 hown hK hP 0 rfl rfl 0 (by decide) (hts (.fieldLink RX9 10 "TopTurned" "now" "LTopTurned$Told;") (by decide +kernel)) (fun _ h9 => h9) rfl dX9_count_109 ?_
    refine va_get (D := D) (ci := 6) (v := .int 9) (C := RX6) (T := TX6) (N := 17) hx hb hts iw_k_X9_count_X6 hown hK hP 1 rfl rfl 5 (by decide) (hts (.fieldLink RX9 248 "TopTurned$Told" "keptPlate" "I") (by decide +kernel)) (fun _ h9 => h9) rfl dX9_count_112 ?_
    exact W.iret (v := 9) hx hb hr (fun t ht hW => ⟨⟨9, (), rfl, (by decide), trivial⟩, hS.F ht⟩) hS.2.2 dX9_count_115
  · refine lv_iload_n hx hb dX9_count_0 rfl (lv_at hl 1 rfl) ?_
    refine lv_bipush (v := 11) hx hb dX9_count_1 (by decide) ?_
    refine lv_icmp_lt (tgt := 22) hx hb dX9_count_3 (by decide) (fun _ => ?_) (fun c => absurd (by decide) c)
    refine lv_iload_n hx hb dX9_count_22 rfl (lv_at hl 1 rfl) ?_
    refine lv_tableIn (off := 93) (tgt := 116) hx hb dX9_count_23 (by decide) (by decide) rfl (by decide) ?_
    refine lv_aload_n hx hb dX9_count_116 rfl (lv_at hl 0 rfl) ?_
    refine va_get (D := D) (ci := 9) (v := .ref h1) (C := RX9) (T := TX9) (N := 12) hx hb hts iw_k_X9_count_X9 hown hK hP 0 rfl rfl 0 (by decide) (hts (.fieldLink RX9 10 "TopTurned" "now" "LTopTurned$Told;") (by decide +kernel)) (fun _ h9 => h9) rfl dX9_count_117 ?_
    refine va_get (D := D) (ci := 6) (v := .int 0) (C := RX6) (T := TX6) (N := 17) hx hb hts iw_k_X9_count_X6 hown hK hP 1 rfl rfl 6 (by decide) (hts (.fieldLink RX9 251 "TopTurned$Told" "burntMatters" "Z") (by decide +kernel)) (fun _ h9 => h9) rfl dX9_count_120 ?_
    refine lv_if_eq (tgt := 130) hx hb dX9_count_123 (by decide) (fun _ => ?_) (fun c => absurd (by decide) c)
    refine lv_iconst (v := 0) hx hb dX9_count_130 (by decide) ?_
    exact W.iret (v := 0) hx hb hr (fun t ht hW => ⟨⟨0, (), rfl, (by decide), trivial⟩, hS.F ht⟩) hS.2.2 dX9_count_131
  · refine lv_iload_n hx hb dX9_count_0 rfl (lv_at hl 1 rfl) ?_
    refine lv_bipush (v := 11) hx hb dX9_count_1 (by decide) ?_
    refine lv_icmp_lt (tgt := 22) hx hb dX9_count_3 (by decide) (fun _ => ?_) (fun c => absurd (by decide) c)
    refine lv_iload_n hx hb dX9_count_22 rfl (lv_at hl 1 rfl) ?_
    refine lv_tableIn (off := 109) (tgt := 132) hx hb dX9_count_23 (by decide) (by decide) rfl (by decide) ?_
    refine lv_aload_n hx hb dX9_count_132 rfl (lv_at hl 0 rfl) ?_
    refine va_get (D := D) (ci := 9) (v := .ref h1) (C := RX9) (T := TX9) (N := 12) hx hb hts iw_k_X9_count_X9 hown hK hP 0 rfl rfl 0 (by decide) (hts (.fieldLink RX9 10 "TopTurned" "now" "LTopTurned$Told;") (by decide +kernel)) (fun _ h9 => h9) rfl dX9_count_133 ?_
    refine va_get (D := D) (ci := 6) (v := .int 0) (C := RX6) (T := TX6) (N := 17) hx hb hts iw_k_X9_count_X6 hown hK hP 1 rfl rfl 12 (by decide) (hts (.fieldLink RX9 146 "TopTurned$Told" "spent" "I") (by decide +kernel)) (fun _ h9 => h9) rfl dX9_count_136 ?_
    exact W.iret (v := 0) hx hb hr (fun t ht hW => ⟨⟨0, (), rfl, (by decide), trivial⟩, hS.F ht⟩) hS.2.2 dX9_count_139
  · refine lv_iload_n hx hb dX9_count_0 rfl (lv_at hl 1 rfl) ?_
    refine lv_bipush (v := 11) hx hb dX9_count_1 (by decide) ?_
    refine lv_icmp_lt (tgt := 22) hx hb dX9_count_3 (by decide) (fun _ => ?_) (fun c => absurd (by decide) c)
    refine lv_iload_n hx hb dX9_count_22 rfl (lv_at hl 1 rfl) ?_
    refine lv_tableIn (off := 117) (tgt := 140) hx hb dX9_count_23 (by decide) (by decide) rfl (by decide) ?_
    refine lv_aload_n hx hb dX9_count_140 rfl (lv_at hl 0 rfl) ?_
    refine va_get (D := D) (ci := 9) (v := .ref h1) (C := RX9) (T := TX9) (N := 12) hx hb hts iw_k_X9_count_X9 hown hK hP 0 rfl rfl 0 (by decide) (hts (.fieldLink RX9 10 "TopTurned" "now" "LTopTurned$Told;") (by decide +kernel)) (fun _ h9 => h9) rfl dX9_count_141 ?_
    refine va_get (D := D) (ci := 6) (v := .int 0) (C := RX6) (T := TX6) (N := 17) hx hb hts iw_k_X9_count_X6 hown hK hP 1 rfl rfl 16 (by decide) (hts (.fieldLink RX9 192 "TopTurned$Told" "rowCount" "I") (by decide +kernel)) (fun _ h9 => h9) rfl dX9_count_144 ?_
    exact W.iret (v := 0) hx hb hr (fun t ht hW => ⟨⟨0, (), rfl, (by decide), trivial⟩, hS.F ht⟩) hS.2.2 dX9_count_147
  · refine lv_iload_n hx hb dX9_count_0 rfl (lv_at hl 1 rfl) ?_
    refine lv_bipush (v := 11) hx hb dX9_count_1 (by decide) ?_
    refine lv_icmp_lt (tgt := 22) hx hb dX9_count_3 (by decide) (fun _ => ?_) (fun c => absurd (by decide) c)
    refine lv_iload_n hx hb dX9_count_22 rfl (lv_at hl 1 rfl) ?_
    refine lv_tableIn (off := 125) (tgt := 148) hx hb dX9_count_23 (by decide) (by decide) rfl (by decide) ?_
    refine lv_aload_n hx hb dX9_count_148 rfl (lv_at hl 0 rfl) ?_
    refine va_get (D := D) (ci := 9) (v := .ref h1) (C := RX9) (T := TX9) (N := 12) hx hb hts iw_k_X9_count_X9 hown hK hP 0 rfl rfl 0 (by decide) (hts (.fieldLink RX9 10 "TopTurned" "now" "LTopTurned$Told;") (by decide +kernel)) (fun _ h9 => h9) rfl dX9_count_149 ?_
    refine va_get (D := D) (ci := 6) (v := .int 0) (C := RX6) (T := TX6) (N := 17) hx hb hts iw_k_X9_count_X6 hown hK hP 1 rfl rfl 14 (by decide) (hts (.fieldLink RX9 98 "TopTurned$Told" "letterCount" "I") (by decide +kernel)) (fun _ h9 => h9) rfl dX9_count_152 ?_
    exact W.iret (v := 0) hx hb hr (fun t ht hW => ⟨⟨0, (), rfl, (by decide), trivial⟩, hS.F ht⟩) hS.2.2 dX9_count_155
  · refine lv_iload_n hx hb dX9_count_0 rfl (lv_at hl 1 rfl) ?_
    refine lv_bipush (v := 11) hx hb dX9_count_1 (by decide) ?_
    refine lv_icmp_lt (tgt := 22) hx hb dX9_count_3 (by decide) (fun _ => ?_) (fun c => absurd (by decide) c)
    refine lv_iload_n hx hb dX9_count_22 rfl (lv_at hl 1 rfl) ?_
    refine lv_tableIn (off := 133) (tgt := 156) hx hb dX9_count_23 (by decide) (by decide) rfl (by decide) ?_
    refine lv_aload_n hx hb dX9_count_156 rfl (lv_at hl 0 rfl) ?_
    refine va_get (D := D) (ci := 9) (v := .ref h3) (C := RX9) (T := TX9) (N := 12) hx hb hts iw_k_X9_count_X9 hown hK hP 0 rfl rfl 6 (by decide) (hts (.fieldLink RX9 47 "TopTurned" "rules" "LTopTurned$Rules;") (by decide +kernel)) (fun _ h9 => h9) rfl dX9_count_157 ?_
    refine lv_aload_n hx hb dX9_count_160 rfl (lv_at hl 0 rfl) ?_
    refine va_get (D := D) (ci := 9) (v := .ref h2) (C := RX9) (T := TX9) (N := 12) hx hb hts iw_k_X9_count_X9 hown hK hP 0 rfl rfl 5 (by decide) (hts (.fieldLink RX9 38 "TopTurned" "space" "LTopTurned$Space;") (by decide +kernel)) (fun _ h9 => h9) rfl dX9_count_161 ?_
    refine lv_aload_n hx hb dX9_count_164 rfl (lv_at hl 0 rfl) ?_
    refine va_get (D := D) (ci := 9) (v := .ref h1) (C := RX9) (T := TX9) (N := 12) hx hb hts iw_k_X9_count_X9 hown hK hP 0 rfl rfl 0 (by decide) (hts (.fieldLink RX9 10 "TopTurned" "now" "LTopTurned$Told;") (by decide +kernel)) (fun _ h9 => h9) rfl dX9_count_165 ?_
    refine va_get (D := D) (ci := 6) (v := .ref h13) (C := RX6) (T := TX6) (N := 17) hx hb hts iw_k_X9_count_X6 hown hK hP 1 rfl rfl 2 (by decide) (hts (.fieldLink RX9 118 "TopTurned$Told" "heap" "[I") (by decide +kernel)) (fun _ h9 => h9) rfl dX9_count_168 ?_
    have hPc := hP.sub (ws' := [(h2, .inr (5, [.int 0, .int 1, .int 1, .int 1, .int 0, .ref h18, .ref h19, .ref h20, .ref h21, .ref h22, .ref h23]))]) [2] rfl
    have hDc := hD.sub (ws' := [(h2, .inr (5, [.int 0, .int 1, .int 1, .int 1, .int 0, .ref h18, .ref h19, .ref h20, .ref h21, .ref h22, .ref h23]))]) [2] (by decide) rfl
    refine va_calli (va_runV (As := [.ref h13]) (rest := [.ref h3]) ⟨hx, hb, hml, hown, hts⟩ (k_X5_orderOf l D cC cI cZ h2 h13 h18 h19 h20 h21 h22 h23 s.heap.size ) (cwV (C := RX5) 1 hts (goodIn_app (goodIn_of _ (by decide +kernel)) gc_k_X9_count_k_X5_orderOf) rfl rfl rfl (by decide +kernel) ⟨(Nat.le_of_ble_eq_true rfl), (Nat.le_of_ble_eq_true rfl)⟩) (kPreV hK hPc hDc (va_recv hK hPc (ci := 5) (q0 := 0) rfl rfl)) rfl rfl hl.1 rfl (lv_room (Nat.le_of_ble_eq_true rfl)) dX9_count_171 ⟨(Nat.le_of_ble_eq_true rfl), (Nat.le_of_ble_eq_true rfl)⟩) hS (fun q _ h => False.elim h) (fun q h => False.elim h) (fun r1 u t H1 locs ht hvm hw hB hz1 hk1 hS => ?_)
    have hP := hP.kept (H1 := H1) (fun k q hk => hk1 q.1 (hP k q hk).lt (fun h => h))
    generalize H1 = H at hP hS ⊢
    have hw : r1 = 0 := hw
    subst hw
    have hPc := hP.sub (ws' := [(h3, .inr (3, [.ref h1, .ref h2, .ref h24, .ref h25, .ref h26, .int 0])), (h2, .inr (5, [.int 0, .int 1, .int 1, .int 1, .int 0, .ref h18, .ref h19, .ref h20, .ref h21, .ref h22, .ref h23]))]) [3, 2] rfl
    have hDc := hD.sub (ws' := [(h3, .inr (3, [.ref h1, .ref h2, .ref h24, .ref h25, .ref h26, .int 0])), (h2, .inr (5, [.int 0, .int 1, .int 1, .int 1, .int 0, .ref h18, .ref h19, .ref h20, .ref h21, .ref h22, .ref h23]))]) [3, 2] (by decide) rfl
    refine va_calli (va_runV (As := [.int 0]) (rest := []) ⟨hx, hb, hml, hown, hts⟩ (k_X3_howManyLawful l D cC cI cZ h3 h2 h1 h24 h25 h26 h18 h19 h20 h21 h22 h23 H.size ) (cwV (C := RX3) 1 hts (goodIn_app (goodIn_of _ (by decide +kernel)) gc_k_X9_count_k_X3_howManyLawful) rfl rfl rfl (by decide +kernel) ⟨(Nat.le_of_ble_eq_true rfl), (Nat.le_of_ble_eq_true rfl)⟩) (kPreV hK hPc hDc (va_recv hK hPc (ci := 3) (q0 := 0) rfl rfl)) rfl rfl hl.1 rfl (lv_room (Nat.le_of_ble_eq_true rfl)) dX9_count_174 ⟨(Nat.le_of_ble_eq_true rfl), (Nat.le_of_ble_eq_true rfl)⟩) hS (fun q _ h => False.elim h) (fun q h => False.elim h) (fun r2 u t H1 locs ht hvm hw hB hz1 hk1 hS => ?_)
    have hP := hP.kept (H1 := H1) (fun k q hk => hk1 q.1 (hP k q hk).lt (fun h => h))
    generalize H1 = H at hP hS ⊢
    have hw : r2 = 0 := hw
    subst hw
    exact W.iret (v := 0) hx hb hr (fun t ht hW => ⟨⟨0, (), rfl, (by decide), trivial⟩, hS.F ht⟩) hS.2.2 dX9_count_177
  · refine lv_iload_n hx hb dX9_count_0 rfl (lv_at hl 1 rfl) ?_
    refine lv_bipush (v := 11) hx hb dX9_count_1 (by decide) ?_
    refine lv_icmp_lt (tgt := 22) hx hb dX9_count_3 (by decide) (fun _ => ?_) (fun c => absurd (by decide) c)
    refine lv_iload_n hx hb dX9_count_22 rfl (lv_at hl 1 rfl) ?_
    refine lv_tableOut (tgt := 178) hx hb dX9_count_23 (by decide) (by decide) ?_
    refine lv_bipush (v := (-9)) hx hb dX9_count_178 (by decide) ?_
    exact W.iret (v := (-9)) hx hb hr (fun t ht hW => ⟨⟨(-9), (), rfl, (by decide), trivial⟩, hS.F ht⟩) hS.2.2 dX9_count_180
  · refine lv_iload_n hx hb dX9_count_0 rfl (lv_at hl 1 rfl) ?_
    refine lv_bipush (v := 11) hx hb dX9_count_1 (by decide) ?_
    refine lv_icmp_lt (tgt := 22) hx hb dX9_count_3 (by decide) (fun c => absurd c (by decide)) (fun _ => ?_)
    refine lv_iload_n hx hb dX9_count_6 rfl (lv_at hl 1 rfl) ?_
    refine lv_bipush (v := 16) hx hb dX9_count_7 (by decide) ?_
    refine lv_icmp_gt (tgt := 22) hx hb dX9_count_9 (by decide) (fun c => absurd c (by decide)) (fun _ => ?_)
    refine lv_aload_n hx hb dX9_count_12 rfl (lv_at hl 0 rfl) ?_
    refine va_get (D := D) (ci := 9) (v := .ref h4) (C := RX9) (T := TX9) (N := 12) hx hb hts iw_k_X9_count_X9 hown hK hP 0 rfl rfl 11 (by decide) (hts (.fieldLink RX9 90 "TopTurned" "refusals" "[I") (by decide +kernel)) (fun _ h9 => h9) rfl dX9_count_13 ?_
    refine lv_iload_n hx hb dX9_count_16 rfl (lv_at hl 1 rfl) ?_
    refine lv_bipush (v := 10) hx hb dX9_count_17 (by decide) ?_
    refine lv_isub hx hb dX9_count_19 ?_
    refine kt_eq (y := 1) (by decide +kernel) ?_
    refine va_iald (i := 1) hx hb hK hP 4 1 rfl rfl (vp_in_iff.mpr (by decide)) dX9_count_20 ?_
    refine kt_eq (y := 0) (by decide +kernel) ?_
    exact W.iret (v := 0) hx hb hr (fun t ht hW => ⟨⟨0, (), rfl, (by decide), trivial⟩, hS.F ht⟩) hS.2.2 dX9_count_21
  · refine lv_iload_n hx hb dX9_count_0 rfl (lv_at hl 1 rfl) ?_
    refine lv_bipush (v := 11) hx hb dX9_count_1 (by decide) ?_
    refine lv_icmp_lt (tgt := 22) hx hb dX9_count_3 (by decide) (fun c => absurd c (by decide)) (fun _ => ?_)
    refine lv_iload_n hx hb dX9_count_6 rfl (lv_at hl 1 rfl) ?_
    refine lv_bipush (v := 16) hx hb dX9_count_7 (by decide) ?_
    refine lv_icmp_gt (tgt := 22) hx hb dX9_count_9 (by decide) (fun c => absurd c (by decide)) (fun _ => ?_)
    refine lv_aload_n hx hb dX9_count_12 rfl (lv_at hl 0 rfl) ?_
    refine va_get (D := D) (ci := 9) (v := .ref h4) (C := RX9) (T := TX9) (N := 12) hx hb hts iw_k_X9_count_X9 hown hK hP 0 rfl rfl 11 (by decide) (hts (.fieldLink RX9 90 "TopTurned" "refusals" "[I") (by decide +kernel)) (fun _ h9 => h9) rfl dX9_count_13 ?_
    refine lv_iload_n hx hb dX9_count_16 rfl (lv_at hl 1 rfl) ?_
    refine lv_bipush (v := 10) hx hb dX9_count_17 (by decide) ?_
    refine lv_isub hx hb dX9_count_19 ?_
    refine kt_eq (y := 2) (by decide +kernel) ?_
    refine va_iald (i := 2) hx hb hK hP 4 1 rfl rfl (vp_in_iff.mpr (by decide)) dX9_count_20 ?_
    refine kt_eq (y := 0) (by decide +kernel) ?_
    exact W.iret (v := 0) hx hb hr (fun t ht hW => ⟨⟨0, (), rfl, (by decide), trivial⟩, hS.F ht⟩) hS.2.2 dX9_count_21
  · refine lv_iload_n hx hb dX9_count_0 rfl (lv_at hl 1 rfl) ?_
    refine lv_bipush (v := 11) hx hb dX9_count_1 (by decide) ?_
    refine lv_icmp_lt (tgt := 22) hx hb dX9_count_3 (by decide) (fun c => absurd c (by decide)) (fun _ => ?_)
    refine lv_iload_n hx hb dX9_count_6 rfl (lv_at hl 1 rfl) ?_
    refine lv_bipush (v := 16) hx hb dX9_count_7 (by decide) ?_
    refine lv_icmp_gt (tgt := 22) hx hb dX9_count_9 (by decide) (fun c => absurd c (by decide)) (fun _ => ?_)
    refine lv_aload_n hx hb dX9_count_12 rfl (lv_at hl 0 rfl) ?_
    refine va_get (D := D) (ci := 9) (v := .ref h4) (C := RX9) (T := TX9) (N := 12) hx hb hts iw_k_X9_count_X9 hown hK hP 0 rfl rfl 11 (by decide) (hts (.fieldLink RX9 90 "TopTurned" "refusals" "[I") (by decide +kernel)) (fun _ h9 => h9) rfl dX9_count_13 ?_
    refine lv_iload_n hx hb dX9_count_16 rfl (lv_at hl 1 rfl) ?_
    refine lv_bipush (v := 10) hx hb dX9_count_17 (by decide) ?_
    refine lv_isub hx hb dX9_count_19 ?_
    refine kt_eq (y := 3) (by decide +kernel) ?_
    refine va_iald (i := 3) hx hb hK hP 4 1 rfl rfl (vp_in_iff.mpr (by decide)) dX9_count_20 ?_
    refine kt_eq (y := 0) (by decide +kernel) ?_
    exact W.iret (v := 0) hx hb hr (fun t ht hW => ⟨⟨0, (), rfl, (by decide), trivial⟩, hS.F ht⟩) hS.2.2 dX9_count_21
  · refine lv_iload_n hx hb dX9_count_0 rfl (lv_at hl 1 rfl) ?_
    refine lv_bipush (v := 11) hx hb dX9_count_1 (by decide) ?_
    refine lv_icmp_lt (tgt := 22) hx hb dX9_count_3 (by decide) (fun c => absurd c (by decide)) (fun _ => ?_)
    refine lv_iload_n hx hb dX9_count_6 rfl (lv_at hl 1 rfl) ?_
    refine lv_bipush (v := 16) hx hb dX9_count_7 (by decide) ?_
    refine lv_icmp_gt (tgt := 22) hx hb dX9_count_9 (by decide) (fun c => absurd c (by decide)) (fun _ => ?_)
    refine lv_aload_n hx hb dX9_count_12 rfl (lv_at hl 0 rfl) ?_
    refine va_get (D := D) (ci := 9) (v := .ref h4) (C := RX9) (T := TX9) (N := 12) hx hb hts iw_k_X9_count_X9 hown hK hP 0 rfl rfl 11 (by decide) (hts (.fieldLink RX9 90 "TopTurned" "refusals" "[I") (by decide +kernel)) (fun _ h9 => h9) rfl dX9_count_13 ?_
    refine lv_iload_n hx hb dX9_count_16 rfl (lv_at hl 1 rfl) ?_
    refine lv_bipush (v := 10) hx hb dX9_count_17 (by decide) ?_
    refine lv_isub hx hb dX9_count_19 ?_
    refine kt_eq (y := 4) (by decide +kernel) ?_
    refine va_iald (i := 4) hx hb hK hP 4 1 rfl rfl (vp_in_iff.mpr (by decide)) dX9_count_20 ?_
    refine kt_eq (y := 0) (by decide +kernel) ?_
    exact W.iret (v := 0) hx hb hr (fun t ht hW => ⟨⟨0, (), rfl, (by decide), trivial⟩, hS.F ht⟩) hS.2.2 dX9_count_21
  · refine lv_iload_n hx hb dX9_count_0 rfl (lv_at hl 1 rfl) ?_
    refine lv_bipush (v := 11) hx hb dX9_count_1 (by decide) ?_
    refine lv_icmp_lt (tgt := 22) hx hb dX9_count_3 (by decide) (fun c => absurd c (by decide)) (fun _ => ?_)
    refine lv_iload_n hx hb dX9_count_6 rfl (lv_at hl 1 rfl) ?_
    refine lv_bipush (v := 16) hx hb dX9_count_7 (by decide) ?_
    refine lv_icmp_gt (tgt := 22) hx hb dX9_count_9 (by decide) (fun c => absurd c (by decide)) (fun _ => ?_)
    refine lv_aload_n hx hb dX9_count_12 rfl (lv_at hl 0 rfl) ?_
    refine va_get (D := D) (ci := 9) (v := .ref h4) (C := RX9) (T := TX9) (N := 12) hx hb hts iw_k_X9_count_X9 hown hK hP 0 rfl rfl 11 (by decide) (hts (.fieldLink RX9 90 "TopTurned" "refusals" "[I") (by decide +kernel)) (fun _ h9 => h9) rfl dX9_count_13 ?_
    refine lv_iload_n hx hb dX9_count_16 rfl (lv_at hl 1 rfl) ?_
    refine lv_bipush (v := 10) hx hb dX9_count_17 (by decide) ?_
    refine lv_isub hx hb dX9_count_19 ?_
    refine kt_eq (y := 5) (by decide +kernel) ?_
    refine va_iald (i := 5) hx hb hK hP 4 1 rfl rfl (vp_in_iff.mpr (by decide)) dX9_count_20 ?_
    refine kt_eq (y := 0) (by decide +kernel) ?_
    exact W.iret (v := 0) hx hb hr (fun t ht hW => ⟨⟨0, (), rfl, (by decide), trivial⟩, hS.F ht⟩) hS.2.2 dX9_count_21
  · refine lv_iload_n hx hb dX9_count_0 rfl (lv_at hl 1 rfl) ?_
    refine lv_bipush (v := 11) hx hb dX9_count_1 (by decide) ?_
    refine lv_icmp_lt (tgt := 22) hx hb dX9_count_3 (by decide) (fun c => absurd c (by decide)) (fun _ => ?_)
    refine lv_iload_n hx hb dX9_count_6 rfl (lv_at hl 1 rfl) ?_
    refine lv_bipush (v := 16) hx hb dX9_count_7 (by decide) ?_
    refine lv_icmp_gt (tgt := 22) hx hb dX9_count_9 (by decide) (fun c => absurd c (by decide)) (fun _ => ?_)
    refine lv_aload_n hx hb dX9_count_12 rfl (lv_at hl 0 rfl) ?_
    refine va_get (D := D) (ci := 9) (v := .ref h4) (C := RX9) (T := TX9) (N := 12) hx hb hts iw_k_X9_count_X9 hown hK hP 0 rfl rfl 11 (by decide) (hts (.fieldLink RX9 90 "TopTurned" "refusals" "[I") (by decide +kernel)) (fun _ h9 => h9) rfl dX9_count_13 ?_
    refine lv_iload_n hx hb dX9_count_16 rfl (lv_at hl 1 rfl) ?_
    refine lv_bipush (v := 10) hx hb dX9_count_17 (by decide) ?_
    refine lv_isub hx hb dX9_count_19 ?_
    refine kt_eq (y := 6) (by decide +kernel) ?_
    refine va_iald (i := 6) hx hb hK hP 4 1 rfl rfl (vp_in_iff.mpr (by decide)) dX9_count_20 ?_
    refine kt_eq (y := 0) (by decide +kernel) ?_
    exact W.iret (v := 0) hx hb hr (fun t ht hW => ⟨⟨0, (), rfl, (by decide), trivial⟩, hS.F ht⟩) hS.2.2 dX9_count_21
  · refine lv_iload_n hx hb dX9_count_0 rfl (lv_at hl 1 rfl) ?_
    refine lv_bipush (v := 11) hx hb dX9_count_1 (by decide) ?_
    refine lv_icmp_lt (tgt := 22) hx hb dX9_count_3 (by decide) (fun _ => ?_) (fun c => absurd (by rw [fa_lt]; have g0 := hlo; have e11 : Int32.toInt 11 = 11 := (by decide); omega) c)
    refine lv_iload_n hx hb dX9_count_22 rfl (lv_at hl 1 rfl) ?_
    refine lv_tableOut (tgt := 178) hx hb dX9_count_23 (by omega) (by decide) ?_
    refine lv_bipush (v := (-9)) hx hb dX9_count_178 (by decide) ?_
    exact W.iret (v := (-9)) hx hb hr (fun t ht hW => ⟨⟨(-9), (), rfl, (by rw [if_neg (kne_lo hlo (by decide)), if_neg (kne_lo hlo (by decide)), if_neg (kne_lo hlo (by decide)), if_neg (kne_lo hlo (by decide)), if_neg (kne_lo hlo (by decide)), if_neg (kne_lo hlo (by decide)), if_neg (kne_lo hlo (by decide)), if_neg (kne_lo hlo (by decide)), if_neg (kne_lo hlo (by decide)), if_neg (kne_lo hlo (by decide)), if_neg (kne_lo hlo (by decide)), if_neg (kne_lo hlo (by decide)), if_neg (kne_lo hlo (by decide)), if_neg (kne_lo hlo (by decide)), if_neg (kne_lo hlo (by decide)), if_neg (kne_lo hlo (by decide)), if_neg (kne_lo hlo (by decide))]), trivial⟩, hS.F ht⟩) hS.2.2 dX9_count_180
  · refine lv_iload_n hx hb dX9_count_0 rfl (lv_at hl 1 rfl) ?_
    refine lv_bipush (v := 11) hx hb dX9_count_1 (by decide) ?_
    refine lv_icmp_lt (tgt := 22) hx hb dX9_count_3 (by decide) (fun c => absurd c (by rw [fa_lt]; have g0 := hhi; have e11 : Int32.toInt 11 = 11 := (by decide); omega)) (fun _ => ?_)
    refine lv_iload_n hx hb dX9_count_6 rfl (lv_at hl 1 rfl) ?_
    refine lv_bipush (v := 16) hx hb dX9_count_7 (by decide) ?_
    refine lv_icmp_gt (tgt := 22) hx hb dX9_count_9 (by decide) (fun _ => ?_) (fun c => absurd (by rw [fa_lt]; have g0 := hhi; have e16 : Int32.toInt 16 = 16 := (by decide); omega) c)
    refine lv_iload_n hx hb dX9_count_22 rfl (lv_at hl 1 rfl) ?_
    refine lv_tableOut (tgt := 178) hx hb dX9_count_23 (by omega) (by decide) ?_
    refine lv_bipush (v := (-9)) hx hb dX9_count_178 (by decide) ?_
    exact W.iret (v := (-9)) hx hb hr (fun t ht hW => ⟨⟨(-9), (), rfl, (by rw [if_neg (kne_hi hhi (by decide)), if_neg (kne_hi hhi (by decide)), if_neg (kne_hi hhi (by decide)), if_neg (kne_hi hhi (by decide)), if_neg (kne_hi hhi (by decide)), if_neg (kne_hi hhi (by decide)), if_neg (kne_hi hhi (by decide)), if_neg (kne_hi hhi (by decide)), if_neg (kne_hi hhi (by decide)), if_neg (kne_hi hhi (by decide)), if_neg (kne_hi hhi (by decide)), if_neg (kne_hi hhi (by decide)), if_neg (kne_hi hhi (by decide)), if_neg (kne_hi hhi (by decide)), if_neg (kne_hi hhi (by decide)), if_neg (kne_hi hhi (by decide)), if_neg (kne_hi hhi (by decide))]), trivial⟩, hS.F ht⟩) hS.2.2 dX9_count_180
