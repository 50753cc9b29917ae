set_option maxHeartbeats 4000000 in
set_option maxRecDepth 100000 in
/-- isWeight: static -/
theorem t_X0_isWeight (l : Launch) (w : UInt64) : Met l yX0_isWeight wsX0_isWeight ({ frames := 0, cells := 0, slots := 0, locals := 0 }) (va_Pc [.double w] (fun _ => True)) (va_Qi (fun (r : Int32) (_ : Unit) => r = b2 (C_isW w)) (fun _ _ => True) (fun _ => False)) 0 0 (fun _ => False) := by
  refine Met.ofW (cc := cX0_isWeight) (maxL := 2) (ret := some .boolean) (by decide) rfl ?_
  intro p e s m args below meth c s₁ B hml hv
  obtain ⟨rfl, -⟩ := hv
  have hx := B.exec
  have hb := B.bytes
  have hr := B.returns
  have hts := atoms_spec (ws := wsX0_isWeight) B.pre
  have hown : s.vm.findClass RX0 = some m.cls := findClass_of_methodNamed B.named
  have hlocks := B.notSynchronized
  have hl := lv_entry ([.double w]) (n := 2) (Nat.le_of_ble_eq_true rfl)
  rw [lg_entry_eq]
  generalize (lg_sl ([.double w]) ++ List.replicate (2 - (lg_sl ([.double w])).length) Slot.unset).toArray = ls at hl ⊢
  have hl : lv_has ls 2 [(0, .double w)] := hl
  have hk_107 := hts (.constantDouble RX0 107 (4696837146684686336)) (by decide +kernel)
  refine lv_dload_n hx hb dX0_isWeight_0 rfl (lv_at hl 0 rfl) ?_
  refine lv_dconst0 hx hb dX0_isWeight_1 ?_
  refine k_dcmpl hx hb dX0_isWeight_2 ?_
  refine lv_if_lt (tgt := 18) hx hb dX0_isWeight_3 (by decide) (fun c1 => ?_) (fun c1 => ?_)
  · refine lv_iconst (v := 0) hx hb dX0_isWeight_18 (by decide) ?_
    exact W.zret (ty := .boolean) (v := 0) hx hb hr rfl (fun t ht hW => ⟨⟨0, (), rfl, (by simp only [C_isW, if_pos c1] <;> rfl), trivial⟩, (va_S.rf (A := fun _ => False) (H0 := s.heap)).F ht⟩) (fun q hq => absurd hq List.not_mem_nil) dX0_isWeight_19
  · refine lv_dload_n hx hb dX0_isWeight_6 rfl (lv_at hl 0 rfl) ?_
    refine lv_ldc2d hx hb hown hk_107 dX0_isWeight_7 ?_
    refine k_dcmpg hx hb dX0_isWeight_10 ?_
    refine lv_if_gt (tgt := 18) hx hb dX0_isWeight_11 (by decide) (fun c2 => ?_) (fun c2 => ?_)
    · refine lv_iconst (v := 0) hx hb dX0_isWeight_18 (by decide) ?_
      exact W.zret (ty := .boolean) (v := 0) hx hb hr rfl (fun t ht hW => ⟨⟨0, (), rfl, (by simp only [C_isW, if_neg c1, if_pos c2] <;> rfl), trivial⟩, (va_S.rf (A := fun _ => False) (H0 := s.heap)).F ht⟩) (fun q hq => absurd hq List.not_mem_nil) dX0_isWeight_19
    · refine lv_iconst (v := 1) hx hb dX0_isWeight_14 (by decide) ?_
      refine lv_goto (tgt := 19) hx hb dX0_isWeight_15 (by decide) ?_
      exact W.zret (ty := .boolean) (v := 1) hx hb hr rfl (fun t ht hW => ⟨⟨1, (), rfl, (by simp only [C_isW, if_neg c1, if_neg c2] <;> rfl), trivial⟩, (va_S.rf (A := fun _ => False) (H0 := s.heap)).F ht⟩) (fun q hq => absurd hq List.not_mem_nil) dX0_isWeight_19

set_option maxHeartbeats 4000000 in
set_option maxRecDepth 100000 in
/-- size -/
theorem t_X0_size (l : Launch) (D : va_G) (ki : Nat → ClassId) (g : Nat → Nat) (u : CS) (sz : Nat) (v : Int32)  : gMi l yX0_size wsX0_size ({ frames := 1, cells := 0, slots := 0, locals := 20 }) D (cw ki g) (cty ki) u sz [.ref (g 0), .int v] (fun r u' => r = b2 (rng 12 v) ∧ u' = if rng 12 v = true then C_size u v else u) := by
  refine g_ofi (cc := cX0_size) (maxL := 2) (ret := some .boolean) (own := RX0) (by decide) rfl rfl ?_
  intro p e s m below meth c A hx hb hr hlocks hml hts hown hK hD hA H locs hP hS
  have hl := lv_entry ([.ref (g 0), .int v]) (n := 2) (Nat.le_of_ble_eq_true rfl)
  rw [lg_entry_eq]
  generalize (lg_sl ([.ref (g 0), .int v]) ++ List.replicate (2 - (lg_sl ([.ref (g 0), .int v])).length) Slot.unset).toArray = ls at hl ⊢
  have hl : lv_has ls 2 [(0, .ref (g 0)), (1, .int v)] := hl
  have hf_20 := hts (.fieldLink RX0 20 "StepGraph" "vertexCount" "I") (by decide +kernel)
  have hf_24 := hts (.fieldLink RX0 24 "StepGraph" "edgeCount" "I") (by decide +kernel)
  have hin : ∀ w ∈ wsX00, w ∈ wsX0_size := by decide +kernel
  refine lv_iload_n hx hb dX0_size_0 rfl (lv_at hl 1 rfl) ?_
  refine lv_iconst (v := 1) hx hb dX0_size_1 (by decide) ?_
  refine lv_icmp_lt (tgt := 11) hx hb dX0_size_2 (by decide) (fun c1 => ?_) (fun c1 => ?_)
  · refine lv_iconst (v := 0) hx hb dX0_size_11 (by decide) ?_
    exact W.zret (ty := .boolean) (v := 0) hx hb hr rfl (fun t ht hW => ⟨⟨0, u, rfl, ⟨by simp only [rng, if_pos c1, Bool.false_eq_true, ↓reduceIte] <;> rfl, by simp only [rng, if_pos c1, Bool.false_eq_true, ↓reduceIte] <;> rfl⟩, by rw [ht]; exact hP, va_K.moved hW.alike hK, hD⟩, hS.F ht⟩) hS.2.2 dX0_size_12
  · refine lv_iload_n hx hb dX0_size_5 rfl (lv_at hl 1 rfl) ?_
    refine lv_bipush (v := 12) hx hb dX0_size_6 (by decide) ?_
    refine lv_icmp_le (tgt := 13) hx hb dX0_size_8 (by decide) (fun c2 => ?_) (fun c2 => ?_)
    · refine lv_aload_n hx hb dX0_size_13 rfl (lv_at hl 0 rfl) ?_
      refine lv_iload_n hx hb dX0_size_14 rfl (lv_at hl 1 rfl) ?_
      refine c_put (u := u) hx hb hts hin hown hK hP hD hS 3 (by decide) rfl rfl hf_20 .int (by decide +kernel) rfl rfl (cs_n u v) rfl dX0_size_15 (fun H locs hP hD hS => ?_)
      refine lv_aload_n hx hb dX0_size_18 rfl (lv_at hl 0 rfl) ?_
      refine lv_iconst (v := 0) hx hb dX0_size_19 (by decide) ?_
      refine c_put (u := cs_n u v) hx hb hts hin hown hK hP hD hS 4 (by decide) rfl rfl hf_24 .int (by decide +kernel) rfl rfl (cs_e (cs_n u v) 0) rfl dX0_size_20 (fun H locs hP hD hS => ?_)
      refine lv_aload_n hx hb dX0_size_23 rfl (lv_at hl 0 rfl) ?_
      refine g_callv (w := cw ki g) (u := cs_e (cs_n u v) 0) (As := []) (rest := []) ⟨hx, hb, hml, hown, hts⟩ (t_X0_endRun l D ki g (cs_e (cs_n u v) 0) H.size  ) (cwV 0 hts gX0_size_X0_endRun rfl rfl rfl (by decide +kernel) ⟨Nat.le_of_ble_eq_true rfl, Nat.le_of_ble_eq_true rfl⟩) hK hP hD hS hA rfl rfl (cw_0 ki g (cs_e (cs_n u v) 0)) rfl hl.1 rfl (Nat.le_of_ble_eq_true rfl) dX0_size_24 ⟨Nat.zero_le _, Nat.zero_le _⟩ (fun u' H locs hw hP hD hS => ?_)
      subst hw
      have hP : va_P D vwCl (cw ki g (cs_cr (cs_de (cs_se (cs_sc (cs_wc (cs_ru (cs_e (cs_n u v) 0) 0) 0) 0) 0) 0) 0)) H := hP
      have hD : va_D A (cw ki g (cs_cr (cs_de (cs_se (cs_sc (cs_wc (cs_ru (cs_e (cs_n u v) 0) 0) 0) 0) 0) 0) 0)) := hD
      refine lv_iconst (v := 1) hx hb dX0_size_27 (by decide) ?_
      exact W.zret (ty := .boolean) (v := 1) hx hb hr rfl (fun t ht hW => ⟨⟨1, (cs_cr (cs_de (cs_se (cs_sc (cs_wc (cs_ru (cs_e (cs_n u v) 0) 0) 0) 0) 0) 0) 0), rfl, ⟨by simp only [rng, if_neg c1, if_pos c2, Bool.false_eq_true, ↓reduceIte] <;> rfl, by simp only [rng, if_neg c1, if_pos c2, Bool.false_eq_true, ↓reduceIte] <;> rfl⟩, by rw [ht]; exact hP, va_K.moved hW.alike hK, hD⟩, hS.F ht⟩) hS.2.2 dX0_size_28
    · refine lv_iconst (v := 0) hx hb dX0_size_11 (by decide) ?_
      exact W.zret (ty := .boolean) (v := 0) hx hb hr rfl (fun t ht hW => ⟨⟨0, u, rfl, ⟨by simp only [rng, if_neg c1, if_neg c2, Bool.false_eq_true, ↓reduceIte] <;> rfl, by simp only [rng, if_neg c1, if_neg c2, Bool.false_eq_true, ↓reduceIte] <;> rfl⟩, by rw [ht]; exact hP, va_K.moved hW.alike hK, hD⟩, hS.F ht⟩) hS.2.2 dX0_size_12

set_option maxHeartbeats 4000000 in
set_option maxRecDepth 100000 in
/-- parts -/
theorem t_X0_parts (l : Launch) (D : va_G) (ki : Nat → ClassId) (g : Nat → Nat) (u : CS) (sz : Nat) (v : Int32)  : gMi l yX0_parts wsX0_parts ({ frames := 1, cells := 0, slots := 0, locals := 20 }) D (cw ki g) (cty ki) u sz [.ref (g 0), .int v] (fun r u' => r = b2 (rng 4 v) ∧ u' = if rng 4 v = true then C_parts u v else u) := by
  refine g_ofi (cc := cX0_parts) (maxL := 2) (ret := some .boolean) (own := RX0) (by decide) rfl rfl ?_
  intro p e s m below meth c A hx hb hr hlocks hml hts hown hK hD hA H locs hP hS
  have hl := lv_entry ([.ref (g 0), .int v]) (n := 2) (Nat.le_of_ble_eq_true rfl)
  rw [lg_entry_eq]
  generalize (lg_sl ([.ref (g 0), .int v]) ++ List.replicate (2 - (lg_sl ([.ref (g 0), .int v])).length) Slot.unset).toArray = ls at hl ⊢
  have hl : lv_has ls 2 [(0, .ref (g 0)), (1, .int v)] := hl
  have hf_27 := hts (.fieldLink RX0 27 "StepGraph" "partCount" "I") (by decide +kernel)
  have hin : ∀ w ∈ wsX00, w ∈ wsX0_parts := by decide +kernel
  refine lv_iload_n hx hb dX0_parts_0 rfl (lv_at hl 1 rfl) ?_
  refine lv_iconst (v := 1) hx hb dX0_parts_1 (by decide) ?_
  refine lv_icmp_lt (tgt := 10) hx hb dX0_parts_2 (by decide) (fun c1 => ?_) (fun c1 => ?_)
  · refine lv_iconst (v := 0) hx hb dX0_parts_10 (by decide) ?_
    exact W.zret (ty := .boolean) (v := 0) hx hb hr rfl (fun t ht hW => ⟨⟨0, u, rfl, ⟨by simp only [rng, if_pos c1, Bool.false_eq_true, ↓reduceIte] <;> rfl, by simp only [rng, if_pos c1, Bool.false_eq_true, ↓reduceIte] <;> rfl⟩, by rw [ht]; exact hP, va_K.moved hW.alike hK, hD⟩, hS.F ht⟩) hS.2.2 dX0_parts_11
  · refine lv_iload_n hx hb dX0_parts_5 rfl (lv_at hl 1 rfl) ?_
    refine lv_iconst (v := 4) hx hb dX0_parts_6 (by decide) ?_
    refine lv_icmp_le (tgt := 12) hx hb dX0_parts_7 (by decide) (fun c2 => ?_) (fun c2 => ?_)
    · refine lv_aload_n hx hb dX0_parts_12 rfl (lv_at hl 0 rfl) ?_
      refine lv_iload_n hx hb dX0_parts_13 rfl (lv_at hl 1 rfl) ?_
      refine c_put (u := u) hx hb hts hin hown hK hP hD hS 5 (by decide) rfl rfl hf_27 .int (by decide +kernel) rfl rfl (cs_k u v) rfl dX0_parts_14 (fun H locs hP hD hS => ?_)
      refine lv_aload_n hx hb dX0_parts_17 rfl (lv_at hl 0 rfl) ?_
      refine g_callv (w := cw ki g) (u := cs_k u v) (As := []) (rest := []) ⟨hx, hb, hml, hown, hts⟩ (t_X0_endRun l D ki g (cs_k u v) H.size  ) (cwV 0 hts gX0_parts_X0_endRun rfl rfl rfl (by decide +kernel) ⟨Nat.le_of_ble_eq_true rfl, Nat.le_of_ble_eq_true rfl⟩) hK hP hD hS hA rfl rfl (cw_0 ki g (cs_k u v)) rfl hl.1 rfl (Nat.le_of_ble_eq_true rfl) dX0_parts_18 ⟨Nat.zero_le _, Nat.zero_le _⟩ (fun u' H locs hw hP hD hS => ?_)
      subst hw
      have hP : va_P D vwCl (cw ki g (cs_cr (cs_de (cs_se (cs_sc (cs_wc (cs_ru (cs_k u v) 0) 0) 0) 0) 0) 0)) H := hP
      have hD : va_D A (cw ki g (cs_cr (cs_de (cs_se (cs_sc (cs_wc (cs_ru (cs_k u v) 0) 0) 0) 0) 0) 0)) := hD
      refine lv_iconst (v := 1) hx hb dX0_parts_21 (by decide) ?_
      exact W.zret (ty := .boolean) (v := 1) hx hb hr rfl (fun t ht hW => ⟨⟨1, (cs_cr (cs_de (cs_se (cs_sc (cs_wc (cs_ru (cs_k u v) 0) 0) 0) 0) 0) 0), rfl, ⟨by simp only [rng, if_neg c1, if_pos c2, Bool.false_eq_true, ↓reduceIte] <;> rfl, by simp only [rng, if_neg c1, if_pos c2, Bool.false_eq_true, ↓reduceIte] <;> rfl⟩, by rw [ht]; exact hP, va_K.moved hW.alike hK, hD⟩, hS.F ht⟩) hS.2.2 dX0_parts_22
    · refine lv_iconst (v := 0) hx hb dX0_parts_10 (by decide) ?_
      exact W.zret (ty := .boolean) (v := 0) hx hb hr rfl (fun t ht hW => ⟨⟨0, u, rfl, ⟨by simp only [rng, if_neg c1, if_neg c2, Bool.false_eq_true, ↓reduceIte] <;> rfl, by simp only [rng, if_neg c1, if_neg c2, Bool.false_eq_true, ↓reduceIte] <;> rfl⟩, by rw [ht]; exact hP, va_K.moved hW.alike hK, hD⟩, hS.F ht⟩) hS.2.2 dX0_parts_11

set_option maxHeartbeats 4000000 in
set_option maxRecDepth 100000 in
/-- over -/
theorem t_X0_over (l : Launch) (D : va_G) (ki : Nat → ClassId) (g : Nat → Nat) (u : CS) (sz : Nat)   : gMi l yX0_over wsX0_over ({ frames := 0, cells := 0, slots := 0, locals := 0 }) D (cw ki g) (cty ki) u sz [.ref (g 0)] (fun r u' => r = b2 (C_over u) ∧ u' = u) := by
  refine g_ofi (cc := cX0_over) (maxL := 1) (ret := some .boolean) (own := RX0) (by decide) rfl rfl ?_
  intro p e s m below meth c A hx hb hr hlocks hml hts hown hK hD hA H locs hP hS
  have hl := lv_entry ([.ref (g 0)]) (n := 1) (Nat.le_of_ble_eq_true rfl)
  rw [lg_entry_eq]
  generalize (lg_sl ([.ref (g 0)]) ++ List.replicate (1 - (lg_sl ([.ref (g 0)])).length) Slot.unset).toArray = ls at hl ⊢
  have hl : lv_has ls 1 [(0, .ref (g 0))] := hl
  have hf_42 := hts (.fieldLink RX0 42 "StepGraph" "running" "Z") (by decide +kernel)
  have hf_49 := hts (.fieldLink RX0 49 "StepGraph" "waitingCount" "I") (by decide +kernel)
  have hin : ∀ w ∈ wsX00, w ∈ wsX0_over := by decide +kernel
  refine lv_aload_n hx hb dX0_over_0 rfl (lv_at hl 0 rfl) ?_
  refine c_get (u := u) hx hb hts hin hown hK hP 9 (by decide) rfl hf_42 (.int (c_ru u)) rfl dX0_over_1 ?_
  refine lv_if_eq (tgt := 18) hx hb dX0_over_4 (by decide) (fun c1 => ?_) (fun c1 => ?_)
  · refine lv_iconst (v := 0) hx hb dX0_over_18 (by decide) ?_
    exact W.zret (ty := .boolean) (v := 0) hx hb hr rfl (fun t ht hW => ⟨⟨0, u, rfl, ⟨by simp only [C_over, if_pos c1, Bool.false_eq_true, ↓reduceIte] <;> rfl, rfl⟩, by rw [ht]; exact hP, va_K.moved hW.alike hK, hD⟩, hS.F ht⟩) hS.2.2 dX0_over_19
  · refine lv_aload_n hx hb dX0_over_7 rfl (lv_at hl 0 rfl) ?_
    refine c_get (u := u) hx hb hts hin hown hK hP 11 (by decide) rfl hf_49 (.int (c_wc u)) rfl dX0_over_8 ?_
    refine lv_if_ne (tgt := 18) hx hb dX0_over_11 (by decide) (fun c2 => ?_) (fun c2 => ?_)
    · refine lv_iconst (v := 0) hx hb dX0_over_18 (by decide) ?_
      exact W.zret (ty := .boolean) (v := 0) hx hb hr rfl (fun t ht hW => ⟨⟨0, u, rfl, ⟨by simp only [C_over, if_neg c1, if_neg c2, Bool.false_eq_true, ↓reduceIte] <;> rfl, rfl⟩, by rw [ht]; exact hP, va_K.moved hW.alike hK, hD⟩, hS.F ht⟩) hS.2.2 dX0_over_19
    · refine lv_iconst (v := 1) hx hb dX0_over_14 (by decide) ?_
      refine lv_goto (tgt := 19) hx hb dX0_over_15 (by decide) ?_
      exact W.zret (ty := .boolean) (v := 1) hx hb hr rfl (fun t ht hW => ⟨⟨1, u, rfl, ⟨by simp only [C_over, if_neg c1, if_pos c2, Bool.false_eq_true, ↓reduceIte] <;> rfl, rfl⟩, by rw [ht]; exact hP, va_K.moved hW.alike hK, hD⟩, hS.F ht⟩) hS.2.2 dX0_over_19

set_option maxHeartbeats 4000000 in
set_option maxRecDepth 100000 in
/-- value -/
theorem t_X0_value (l : Launch) (D : va_G) (ki : Nat → ClassId) (g : Nat → Nat) (u : CS) (sz : Nat) (v : Int32) (n : Nat) (hn : c_n u = nI n) (hn12 : n ≤ 12)  : gMd l yX0_value wsX0_value ({ frames := 1, cells := 0, slots := 0, locals := 21 }) D (cw ki g) (cty ki) u sz [.ref (g 0), .int v] (fun r u' => r = C_val u v ∧ u' = u) := by
  refine g_ofd (cc := cX0_value) (maxL := 2) (ret := some .double) (own := RX0) (by decide) rfl rfl ?_
  intro p e s m below meth c A hx hb hr hlocks hml hts hown hK hD hA H locs hP hS
  have hl := lv_entry ([.ref (g 0), .int v]) (n := 2) (Nat.le_of_ble_eq_true rfl)
  rw [lg_entry_eq]
  generalize (lg_sl ([.ref (g 0), .int v]) ++ List.replicate (2 - (lg_sl ([.ref (g 0), .int v])).length) Slot.unset).toArray = ls at hl ⊢
  have hl : lv_has ls 2 [(0, .ref (g 0)), (1, .int v)] := hl
  have hf_30 := hts (.fieldLink RX0 30 "StepGraph" "values" "[D") (by decide +kernel)
  have hf_42 := hts (.fieldLink RX0 42 "StepGraph" "running" "Z") (by decide +kernel)
  have hk_88 := hts (.constantDouble RX0 88 (13830554455654793216)) (by decide +kernel)
  have hin : ∀ w ∈ wsX00, w ∈ wsX0_value := by decide +kernel
  refine lv_aload_n hx hb dX0_value_0 rfl (lv_at hl 0 rfl) ?_
  refine c_get (u := u) hx hb hts hin hown hK hP 9 (by decide) rfl hf_42 (.int (c_ru u)) rfl dX0_value_1 ?_
  refine lv_if_eq (tgt := 24) hx hb dX0_value_4 (by decide) (fun c1 => ?_) (fun c1 => ?_)
  · refine lv_ldc2d hx hb hown hk_88 dX0_value_24 ?_
    exact W.dret (v := NN) hx hb hr (fun t ht hW => ⟨⟨NN, u, rfl, ⟨by simp only [C_val, if_pos c1, tn, Bool.false_eq_true, ↓reduceIte] <;> rfl, rfl⟩, by rw [ht]; exact hP, va_K.moved hW.alike hK, hD⟩, hS.F ht⟩) hS.2.2 dX0_value_27
  · refine lv_aload_n hx hb dX0_value_7 rfl (lv_at hl 0 rfl) ?_
    refine lv_iload_n hx hb dX0_value_8 rfl (lv_at hl 1 rfl) ?_
    refine g_calli (w := cw ki g) (u := u) (As := [.int v]) (rest := []) ⟨hx, hb, hml, hown, hts⟩ (t_X0_isVertex l D ki g (u) H.size v ) (cwV 1 hts gX0_value_X0_isVertex rfl rfl rfl (by decide +kernel) ⟨Nat.le_of_ble_eq_true rfl, Nat.le_of_ble_eq_true rfl⟩) hK hP hD hS hA rfl rfl (cw_0 ki g (u)) rfl hl.1 rfl (Nat.le_of_ble_eq_true rfl) dX0_value_9 ⟨Nat.zero_le _, Nat.zero_le _⟩ (fun r2 u' H locs hw hP hD hS => ?_)
    obtain ⟨rfl, rfl⟩ := hw
    refine lv_if_eq (tgt := 24) hx hb dX0_value_12 (by decide) (fun c3 => ?_) (fun c3 => ?_)
    · have c3 := b2_0 c3
      refine lv_ldc2d hx hb hown hk_88 dX0_value_24 ?_
      exact W.dret (v := NN) hx hb hr (fun t ht hW => ⟨⟨NN, u, rfl, ⟨by simp only [C_val, if_neg c1, if_neg c3, tn, Bool.false_eq_true, ↓reduceIte] <;> rfl, rfl⟩, by rw [ht]; exact hP, va_K.moved hW.alike hK, hD⟩, hS.F ht⟩) hS.2.2 dX0_value_27
    · have c3 := b2_1 c3
      obtain ⟨j, hj, rfl⟩ := isV_of (n := n) (by omega) (by rw [← hn]; exact c3)
      have hjt : (nI j).toNatClampNeg = j := nI_clamp (by omega)
      have hl : lv_has ls 2 [(0, .ref (g 0)), (1, .int (nI j))] := hl
      refine lv_aload_n hx hb dX0_value_15 rfl (lv_at hl 0 rfl) ?_
      refine c_get (u := u) hx hb hts hin hown hK hP 6 (by decide) rfl hf_30 (.ref (g 4)) rfl dX0_value_16 ?_
      refine lv_iload_n hx hb dX0_value_19 rfl (lv_at hl 1 rfl) ?_
      refine k_dald hx hb hK hP 4 1 (f := c_va u) (n := 12) rfl rfl (j := j) (by omega) (by decide) dX0_value_20 ?_
      refine lv_goto (tgt := 27) hx hb dX0_value_21 (by decide) ?_
      exact W.dret (v := (c_va u) j) hx hb hr (fun t ht hW => ⟨⟨((c_va u) j), u, rfl, ⟨by simp only [C_val, if_neg c1, if_pos c3, tn, Bool.false_eq_true, ↓reduceIte] <;> rfl, rfl⟩, by rw [ht]; exact hP, va_K.moved hW.alike hK, hD⟩, hS.F ht⟩) hS.2.2 dX0_value_27

set_option maxHeartbeats 4000000 in
set_option maxRecDepth 100000 in
/-- pending -/
theorem t_X0_pending (l : Launch) (D : va_G) (ki : Nat → ClassId) (g : Nat → Nat) (u : CS) (sz : Nat) (v q : Int32) (n k : Nat) (hn : c_n u = nI n) (hn12 : n ≤ 12) (hk : c_k u = nI k) (hk1 : 0 < k) (hk4 : k ≤ 4) : gMd l yX0_pending wsX0_pending ({ frames := 1, cells := 0, slots := 0, locals := 21 }) D (cw ki g) (cty ki) u sz [.ref (g 0), .int v, .int q] (fun r u' => r = C_pend u v q ∧ u' = u) := by
  refine g_ofd (cc := cX0_pending) (maxL := 3) (ret := some .double) (own := RX0) (by decide) rfl rfl ?_
  intro p e s m below meth c A hx hb hr hlocks hml hts hown hK hD hA H locs hP hS
  have hl := lv_entry ([.ref (g 0), .int v, .int q]) (n := 3) (Nat.le_of_ble_eq_true rfl)
  rw [lg_entry_eq]
  generalize (lg_sl ([.ref (g 0), .int v, .int q]) ++ List.replicate (3 - (lg_sl ([.ref (g 0), .int v, .int q])).length) Slot.unset).toArray = ls at hl ⊢
  have hl : lv_has ls 3 [(0, .ref (g 0)), (1, .int v), (2, .int q)] := hl
  have hf_39 := hts (.fieldLink RX0 39 "StepGraph" "waiting" "[[D") (by decide +kernel)
  have hf_42 := hts (.fieldLink RX0 42 "StepGraph" "running" "Z") (by decide +kernel)
  have hk_88 := hts (.constantDouble RX0 88 (13830554455654793216)) (by decide +kernel)
  have hin : ∀ w ∈ wsX00, w ∈ wsX0_pending := by decide +kernel
  refine lv_aload_n hx hb dX0_pending_0 rfl (lv_at hl 0 rfl) ?_
  refine c_get (u := u) hx hb hts hin hown hK hP 9 (by decide) rfl hf_42 (.int (c_ru u)) rfl dX0_pending_1 ?_
  refine lv_if_eq (tgt := 34) hx hb dX0_pending_4 (by decide) (fun c1 => ?_) (fun c1 => ?_)
  · refine lv_ldc2d hx hb hown hk_88 dX0_pending_34 ?_
    exact W.dret (v := NN) hx hb hr (fun t ht hW => ⟨⟨NN, u, rfl, ⟨by simp only [C_pend, if_pos c1, tn, Bool.false_eq_true, ↓reduceIte] <;> rfl, rfl⟩, by rw [ht]; exact hP, va_K.moved hW.alike hK, hD⟩, hS.F ht⟩) hS.2.2 dX0_pending_37
  · refine lv_aload_n hx hb dX0_pending_7 rfl (lv_at hl 0 rfl) ?_
    refine lv_iload_n hx hb dX0_pending_8 rfl (lv_at hl 1 rfl) ?_
    refine g_calli (w := cw ki g) (u := u) (As := [.int v]) (rest := []) ⟨hx, hb, hml, hown, hts⟩ (t_X0_isVertex l D ki g (u) H.size v ) (cwV 1 hts gX0_pending_X0_isVertex rfl rfl rfl (by decide +kernel) ⟨Nat.le_of_ble_eq_true rfl, Nat.le_of_ble_eq_true rfl⟩) hK hP hD hS hA rfl rfl (cw_0 ki g (u)) rfl hl.1 rfl (Nat.le_of_ble_eq_true rfl) dX0_pending_9 ⟨Nat.zero_le _, Nat.zero_le _⟩ (fun r2 u' H locs hw hP hD hS => ?_)
    obtain ⟨rfl, rfl⟩ := hw
    refine lv_if_eq (tgt := 34) hx hb dX0_pending_12 (by decide) (fun c3 => ?_) (fun c3 => ?_)
    · have c3 := b2_0 c3
      refine lv_ldc2d hx hb hown hk_88 dX0_pending_34 ?_
      exact W.dret (v := NN) hx hb hr (fun t ht hW => ⟨⟨NN, u, rfl, ⟨by simp only [C_pend, if_neg c1, if_neg c3, tn, Bool.false_eq_true, ↓reduceIte] <;> rfl, rfl⟩, by rw [ht]; exact hP, va_K.moved hW.alike hK, hD⟩, hS.F ht⟩) hS.2.2 dX0_pending_37
    · have c3 := b2_1 c3
      refine lv_aload_n hx hb dX0_pending_15 rfl (lv_at hl 0 rfl) ?_
      refine lv_iload_n hx hb dX0_pending_16 rfl (lv_at hl 2 rfl) ?_
      refine g_calli (w := cw ki g) (u := u) (As := [.int q]) (rest := []) ⟨hx, hb, hml, hown, hts⟩ (t_X0_isPart l D ki g (u) H.size q ) (cwV 1 hts gX0_pending_X0_isPart rfl rfl rfl (by decide +kernel) ⟨Nat.le_of_ble_eq_true rfl, Nat.le_of_ble_eq_true rfl⟩) hK hP hD hS hA rfl rfl (cw_0 ki g (u)) rfl hl.1 rfl (Nat.le_of_ble_eq_true rfl) dX0_pending_17 ⟨Nat.zero_le _, Nat.zero_le _⟩ (fun r4 u' H locs hw hP hD hS => ?_)
      obtain ⟨rfl, rfl⟩ := hw
      refine lv_if_eq (tgt := 34) hx hb dX0_pending_20 (by decide) (fun c5 => ?_) (fun c5 => ?_)
      · have c5 := b2_0 c5
        refine lv_ldc2d hx hb hown hk_88 dX0_pending_34 ?_
        exact W.dret (v := NN) hx hb hr (fun t ht hW => ⟨⟨NN, u, rfl, ⟨by simp only [C_pend, if_neg c1, if_pos c3, if_neg c5, tn, Bool.false_eq_true, ↓reduceIte] <;> rfl, rfl⟩, by rw [ht]; exact hP, va_K.moved hW.alike hK, hD⟩, hS.F ht⟩) hS.2.2 dX0_pending_37
      · have c5 := b2_1 c5
        obtain ⟨j, hj, rfl⟩ := isV_of (n := n) (by omega) (by rw [← hn]; exact c3)
        obtain ⟨i, hi, rfl⟩ := isV_of (n := k) (by omega) (by rw [← hk]; exact c5)
        have hjt : (nI j).toNatClampNeg = j := nI_clamp (by omega)
        have hit : (nI i).toNatClampNeg = i := nI_clamp (by omega)
        have hl : lv_has ls 3 [(0, .ref (g 0)), (1, .int (nI j)), (2, .int (nI i))] := hl
        refine lv_aload_n hx hb dX0_pending_23 rfl (lv_at hl 0 rfl) ?_
        refine c_get (u := u) hx hb hts hin hown hK hP 8 (by decide) rfl hf_39 (.ref (g 6)) rfl dX0_pending_24 ?_
        refine lv_iload_n hx hb dX0_pending_27 rfl (lv_at hl 1 rfl) ?_
        refine c_row (u := u) hx hb hK hP (v := j) (by omega) dX0_pending_28 ?_
        refine lv_iload_n hx hb dX0_pending_29 rfl (lv_at hl 2 rfl) ?_
        refine c_rowld (u := u) hx hb hK hP (v := j) (q := i) (by omega) (by omega) dX0_pending_30 ?_
        refine lv_goto (tgt := 37) hx hb dX0_pending_31 (by decide) ?_
        exact W.dret (v := (c_wa u) j i) hx hb hr (fun t ht hW => ⟨⟨((c_wa u) j i), u, rfl, ⟨by simp only [C_pend, if_neg c1, if_pos c3, if_pos c5, tn, hjt, hit, Bool.false_eq_true, ↓reduceIte] <;> rfl, rfl⟩, by rw [ht]; exact hP, va_K.moved hW.alike hK, hD⟩, hS.F ht⟩) hS.2.2 dX0_pending_37

set_option maxHeartbeats 4000000 in
set_option maxRecDepth 100000 in
/-- degree -/
theorem t_X0_degree (l : Launch) (D : va_G) (ki : Nat → ClassId) (g : Nat → Nat) (u : CS) (sz : Nat) (v : Int32) (ec : Nat) (he : c_e u = nI ec) (he30 : ec ≤ 30)  : gMi l yX0_degree wsX0_degree ({ frames := 1, cells := 0, slots := 0, locals := 21 }) D (cw ki g) (cty ki) u sz [.ref (g 0), .int v] (fun r u' => r = (if C_isV (c_n u) v = true then C_deg v ec (c_fe u) (c_sd u) else -1) ∧ u' = u) := by
  refine g_ofi (cc := cX0_degree) (maxL := 4) (ret := some .int) (own := RX0) (by decide) rfl rfl ?_
  intro p e s m below meth c A hx hb hr hlocks hml hts hown hK hD hA H locs hP hS
  have hl := lv_entry ([.ref (g 0), .int v]) (n := 4) (Nat.le_of_ble_eq_true rfl)
  rw [lg_entry_eq]
  generalize (lg_sl ([.ref (g 0), .int v]) ++ List.replicate (4 - (lg_sl ([.ref (g 0), .int v])).length) Slot.unset).toArray = ls at hl ⊢
  have hl : lv_has ls 4 [(0, .ref (g 0)), (1, .int v)] := hl
  have hf_9 := hts (.fieldLink RX0 9 "StepGraph" "firstEnds" "[I") (by decide +kernel)
  have hf_13 := hts (.fieldLink RX0 13 "StepGraph" "secondEnds" "[I") (by decide +kernel)
  have hf_24 := hts (.fieldLink RX0 24 "StepGraph" "edgeCount" "I") (by decide +kernel)
  have hin : ∀ w ∈ wsX00, w ∈ wsX0_degree := by decide +kernel
  refine lv_aload_n hx hb dX0_degree_0 rfl (lv_at hl 0 rfl) ?_
  refine lv_iload_n hx hb dX0_degree_1 rfl (lv_at hl 1 rfl) ?_
  refine g_calli (w := cw ki g) (u := u) (As := [.int v]) (rest := []) ⟨hx, hb, hml, hown, hts⟩ (t_X0_isVertex l D ki g (u) H.size v ) (cwV 1 hts gX0_degree_X0_isVertex rfl rfl rfl (by decide +kernel) ⟨Nat.le_of_ble_eq_true rfl, Nat.le_of_ble_eq_true rfl⟩) hK hP hD hS hA rfl rfl (cw_0 ki g (u)) rfl hl.1 rfl (Nat.le_of_ble_eq_true rfl) dX0_degree_2 ⟨Nat.zero_le _, Nat.zero_le _⟩ (fun r1 u' H locs hw hP hD hS => ?_)
  obtain ⟨rfl, rfl⟩ := hw
  refine lv_if_ne (tgt := 10) hx hb dX0_degree_5 (by decide) (fun c2 => ?_) (fun c2 => ?_)
  · have c2 := b2_1 c2
    refine lv_iconst (v := 0) hx hb dX0_degree_10 (by decide) ?_
    refine lv_istore_n (lv' := [(2, .int 0), (0, .ref (g 0)), (1, .int v)]) hx hb dX0_degree_11 rfl hl (by decide) rfl (fun ls hl => ?_)
    refine lv_iconst (v := 0) hx hb dX0_degree_12 (by decide) ?_
    refine lv_istore_n (lv' := [(3, .int 0), (2, .int 0), (0, .ref (g 0)), (1, .int v)]) hx hb dX0_degree_13 rfl hl (by decide) rfl (fun ls hl => ?_)
    have loop : ∀ (r i : Nat), i + r = ec → ∀ (H : Heap) (locs : List Loc) (ls : Array Slot), va_P D vwCl (cw ki g (u)) H → va_D A (cw ki g (u)) → va_S A s.heap H locs → lv_has ls 4 [(3, .int (nI (i))), (2, .int (fo (fun i x => if c_fe u i = v then x + 1 else if c_sd u i = v then x + 1 else x) (i) 0)), (0, .ref (g 0)), (1, .int v)] → W p l e (headSpec wsX0_degree { frames := 1, cells := 0, slots := 0, locals := 21 }).room s m ([.ref (g 0), .int v] : List Value).toArray below meth c H locs 0 0 (MQ below (va_Qi (fun r u' => r = (if C_isV (c_n u) v = true then C_deg v ec (c_fe u) (c_sd u) else -1) ∧ u' = u) (gQ D (cw ki g) (cty ki) A) A) ([.ref (g 0), .int v] : List Value).toArray s 0 0 A) (F0 m 14 ls []) := by
      intro r
      induction r with
      | zero =>
        intro i hii H locs ls hP hD hS hl 
        have hii : ec = i := by omega
        subst hii
        refine lv_iload_n hx hb dX0_degree_14 rfl (lv_at hl 0 rfl) ?_
        refine lv_aload_n hx hb dX0_degree_15 rfl (lv_at hl 2 rfl) ?_
        refine c_get (u := u) hx hb hts hin hown hK hP 4 (by decide) rfl hf_24 (.int (nI ec)) (congrArg (fun z => some (Value.int z)) he) dX0_degree_16 ?_
        refine lv_icmp_ge (tgt := 51) hx hb dX0_degree_19 (by decide) (fun c3 => ?_) (fun c3 => absurd (Int32.le_refl _) c3)
        refine lv_iload_n hx hb dX0_degree_51 rfl (lv_at hl 1 rfl) ?_
        exact W.iret (v := fo (fun i x => if c_fe u i = v then x + 1 else if c_sd u i = v then x + 1 else x) (ec) 0) hx hb hr (fun t ht hW => ⟨⟨(fo (fun i x => if c_fe u i = v then x + 1 else if c_sd u i = v then x + 1 else x) (ec) 0), u, rfl, ⟨by simp only [C_deg, if_pos c2] <;> rfl, rfl⟩, by rw [ht]; exact hP, va_K.moved hW.alike hK, hD⟩, hS.F ht⟩) hS.2.2 dX0_degree_52
      | succ r ih =>
        intro i hii H locs ls hP hD hS hl 
        refine lv_iload_n hx hb dX0_degree_14 rfl (lv_at hl 0 rfl) ?_
        refine lv_aload_n hx hb dX0_degree_15 rfl (lv_at hl 2 rfl) ?_
        refine c_get (u := u) hx hb hts hin hown hK hP 4 (by decide) rfl hf_24 (.int (nI ec)) (congrArg (fun z => some (Value.int z)) he) dX0_degree_16 ?_
        refine lv_icmp_ge (tgt := 51) hx hb dX0_degree_19 (by decide) (fun c4 => absurd c4 (nI_ge (b := ec) (by omega) (by omega))) (fun c4 => ?_)
        refine lv_aload_n hx hb dX0_degree_22 rfl (lv_at hl 2 rfl) ?_
        refine c_get (u := u) hx hb hts hin hown hK hP 0 (by decide) rfl hf_9 (.ref (g 1)) rfl dX0_degree_23 ?_
        refine lv_iload_n hx hb dX0_degree_26 rfl (lv_at hl 0 rfl) ?_
        refine k_iald hx hb hK hP 1 0 (f := c_fe u) (n := 30) rfl rfl (j := i) (by omega) (by decide) dX0_degree_27 ?_
        refine lv_iload_n hx hb dX0_degree_28 rfl (lv_at hl 3 rfl) ?_
        refine lv_icmp_eq (tgt := 42) hx hb dX0_degree_29 (by decide) (fun c5 => ?_) (fun c5 => ?_)
        · refine lv_iinc (v := (fo (fun i x => if c_fe u i = v then x + 1 else if c_sd u i = v then x + 1 else x) (i) 0) + 1) (lv' := [(2, .int ((fo (fun i x => if c_fe u i = v then x + 1 else if c_sd u i = v then x + 1 else x) (i) 0) + 1)), (3, .int (nI (i))), (0, .ref (g 0)), (1, .int v)]) hx hb dX0_degree_42 hl (k := 1) rfl (rfl) (by decide) rfl (fun ls hl => ?_)
          refine lv_iinc (v := nI (i + 1)) (lv' := [(3, .int (nI (i + 1))), (2, .int ((fo (fun i x => if c_fe u i = v then x + 1 else if c_sd u i = v then x + 1 else x) (i) 0) + 1)), (0, .ref (g 0)), (1, .int v)]) hx hb dX0_degree_45 hl (k := 1) rfl (nI_1 i) (by decide) rfl (fun ls hl => ?_)
          refine lv_goto (tgt := 14) hx hb dX0_degree_48 (by decide) ?_
          have hL : fo (fun i x => if c_fe u i = v then x + 1 else if c_sd u i = v then x + 1 else x) (i + 1) 0 = (fo (fun i x => if c_fe u i = v then x + 1 else if c_sd u i = v then x + 1 else x) (i) 0) + 1 := by show (if c_fe u i = v then _ else _) = _; simp only [if_pos c2, if_neg c4, if_pos c5]
          exact ih (i + 1) (by omega) _ _ _ hP hD hS (by rw [hL]; exact lv_sub hl [0, 1, 2, 3] rfl) 
        · refine lv_aload_n hx hb dX0_degree_32 rfl (lv_at hl 2 rfl) ?_
          refine c_get (u := u) hx hb hts hin hown hK hP 1 (by decide) rfl hf_13 (.ref (g 2)) rfl dX0_degree_33 ?_
          refine lv_iload_n hx hb dX0_degree_36 rfl (lv_at hl 0 rfl) ?_
          refine k_iald hx hb hK hP 2 0 (f := c_sd u) (n := 30) rfl rfl (j := i) (by omega) (by decide) dX0_degree_37 ?_
          refine lv_iload_n hx hb dX0_degree_38 rfl (lv_at hl 3 rfl) ?_
          refine lv_icmp_ne (tgt := 45) hx hb dX0_degree_39 (by decide) (fun c6 => ?_) (fun c6 => ?_)
          · refine lv_iinc (v := nI (i + 1)) (lv' := [(3, .int (nI (i + 1))), (2, .int (fo (fun i x => if c_fe u i = v then x + 1 else if c_sd u i = v then x + 1 else x) (i) 0)), (0, .ref (g 0)), (1, .int v)]) hx hb dX0_degree_45 hl (k := 0) rfl (nI_1 i) (by decide) rfl (fun ls hl => ?_)
            refine lv_goto (tgt := 14) hx hb dX0_degree_48 (by decide) ?_
            have hL : fo (fun i x => if c_fe u i = v then x + 1 else if c_sd u i = v then x + 1 else x) (i + 1) 0 = fo (fun i x => if c_fe u i = v then x + 1 else if c_sd u i = v then x + 1 else x) (i) 0 := by show (if c_fe u i = v then _ else _) = _; simp only [if_pos c2, if_neg c4, if_neg c5, if_neg c6]
            exact ih (i + 1) (by omega) _ _ _ hP hD hS (by rw [hL]; exact lv_sub hl [0, 1, 2, 3] rfl) 
          · refine lv_iinc (v := (fo (fun i x => if c_fe u i = v then x + 1 else if c_sd u i = v then x + 1 else x) (i) 0) + 1) (lv' := [(2, .int ((fo (fun i x => if c_fe u i = v then x + 1 else if c_sd u i = v then x + 1 else x) (i) 0) + 1)), (3, .int (nI (i))), (0, .ref (g 0)), (1, .int v)]) hx hb dX0_degree_42 hl (k := 1) rfl (rfl) (by decide) rfl (fun ls hl => ?_)
            refine lv_iinc (v := nI (i + 1)) (lv' := [(3, .int (nI (i + 1))), (2, .int ((fo (fun i x => if c_fe u i = v then x + 1 else if c_sd u i = v then x + 1 else x) (i) 0) + 1)), (0, .ref (g 0)), (1, .int v)]) hx hb dX0_degree_45 hl (k := 1) rfl (nI_1 i) (by decide) rfl (fun ls hl => ?_)
            refine lv_goto (tgt := 14) hx hb dX0_degree_48 (by decide) ?_
            have hL : fo (fun i x => if c_fe u i = v then x + 1 else if c_sd u i = v then x + 1 else x) (i + 1) 0 = (fo (fun i x => if c_fe u i = v then x + 1 else if c_sd u i = v then x + 1 else x) (i) 0) + 1 := by show (if c_fe u i = v then _ else _) = _; simp only [if_pos c2, if_neg c4, if_neg c5, if_pos c6]
            exact ih (i + 1) (by omega) _ _ _ hP hD hS (by rw [hL]; exact lv_sub hl [0, 1, 2, 3] rfl) 
    exact loop (ec) 0 (by omega) H locs ls hP hD hS (lv_sub hl [0, 1, 2, 3] rfl) 
  · have c2 := b2_0 c2
    refine lv_iconst (v := (-1)) hx hb dX0_degree_8 (by decide) ?_
    exact W.iret (v := -1) hx hb hr (fun t ht hW => ⟨⟨(-1), u, rfl, ⟨by simp only [C_deg, if_neg c2] <;> rfl, rfl⟩, by rw [ht]; exact hP, va_K.moved hW.alike hK, hD⟩, hS.F ht⟩) hS.2.2 dX0_degree_9

set_option maxHeartbeats 4000000 in
set_option maxRecDepth 100000 in
/-- sum -/
theorem t_X0_sum (l : Launch) (D : va_G) (ki : Nat → ClassId) (g : Nat → Nat) (u : CS) (sz : Nat) (n : Nat) (hn : c_n u = nI n) (hn12 : n ≤ 12) (hs : ¬ c_ru u = 0 → ∀ i, i < n → ¬ dl (c_va u i) NN = 0 → vf_n64 (FP.dadd (C_sum i (c_va u)) (c_va u i))) : gMd l yX0_sum wsX0_sum ({ frames := 0, cells := 0, slots := 0, locals := 0 }) D (cw ki g) (cty ki) u sz [.ref (g 0)] (fun r u' => r = (if c_ru u = 0 then D0 else C_sum n (c_va u)) ∧ u' = u) := by
  refine g_ofd (cc := cX0_sum) (maxL := 4) (ret := some .double) (own := RX0) (by decide) rfl rfl ?_
  intro p e s m below meth c A hx hb hr hlocks hml hts hown hK hD hA H locs hP hS
  have hl := lv_entry ([.ref (g 0)]) (n := 4) (Nat.le_of_ble_eq_true rfl)
  rw [lg_entry_eq]
  generalize (lg_sl ([.ref (g 0)]) ++ List.replicate (4 - (lg_sl ([.ref (g 0)])).length) Slot.unset).toArray = ls at hl ⊢
  have hl : lv_has ls 4 [(0, .ref (g 0))] := hl
  have hf_20 := hts (.fieldLink RX0 20 "StepGraph" "vertexCount" "I") (by decide +kernel)
  have hf_30 := hts (.fieldLink RX0 30 "StepGraph" "values" "[D") (by decide +kernel)
  have hf_42 := hts (.fieldLink RX0 42 "StepGraph" "running" "Z") (by decide +kernel)
  have hk_88 := hts (.constantDouble RX0 88 (13830554455654793216)) (by decide +kernel)
  have hin : ∀ w ∈ wsX00, w ∈ wsX0_sum := by decide +kernel
  refine lv_dconst0 hx hb dX0_sum_0 ?_
  refine lv_dstore_n (lv' := [(1, .double D0), (0, .ref (g 0))]) hx hb dX0_sum_1 rfl hl (by decide) rfl (fun ls hl => ?_)
  refine lv_aload_n hx hb dX0_sum_2 rfl (lv_at hl 1 rfl) ?_
  refine c_get (u := u) hx hb hts hin hown hK hP 9 (by decide) rfl hf_42 (.int (c_ru u)) rfl dX0_sum_3 ?_
  refine lv_if_eq (tgt := 47) hx hb dX0_sum_6 (by decide) (fun c1 => ?_) (fun c1 => ?_)
  · refine lv_dload_n hx hb dX0_sum_47 rfl (lv_at hl 0 rfl) ?_
    exact W.dret (v := D0) hx hb hr (fun t ht hW => ⟨⟨D0, u, rfl, ⟨by simp only [C_sum, if_pos c1] <;> rfl, rfl⟩, by rw [ht]; exact hP, va_K.moved hW.alike hK, hD⟩, hS.F ht⟩) hS.2.2 dX0_sum_48
  · refine lv_iconst (v := 0) hx hb dX0_sum_9 (by decide) ?_
    refine lv_istore_n (lv' := [(3, .int 0), (1, .double D0), (0, .ref (g 0))]) hx hb dX0_sum_10 rfl hl (by decide) rfl (fun ls hl => ?_)
    have loop : ∀ (r i : Nat), i + r = n → ∀ (H : Heap) (locs : List Loc) (ls : Array Slot), va_P D vwCl (cw ki g (u)) H → va_D A (cw ki g (u)) → va_S A s.heap H locs → lv_has ls 4 [(3, .int (nI (i))), (1, .double (fo (fun v t => if dl (c_va u v) NN = 0 then t else FP.dadd t (c_va u v)) (i) D0)), (0, .ref (g 0))] → W p l e (headSpec wsX0_sum { frames := 0, cells := 0, slots := 0, locals := 0 }).room s m ([.ref (g 0)] : List Value).toArray below meth c H locs 0 0 (MQ below (va_Qd (fun r u' => r = (if c_ru u = 0 then D0 else C_sum n (c_va u)) ∧ u' = u) (gQ D (cw ki g) (cty ki) A) A) ([.ref (g 0)] : List Value).toArray s 0 0 A) (F0 m 11 ls []) := by
      intro r
      induction r with
      | zero =>
        intro i hii H locs ls hP hD hS hl 
        have hii : n = i := by omega
        subst hii
        refine lv_iload_n hx hb dX0_sum_11 rfl (lv_at hl 0 rfl) ?_
        refine lv_aload_n hx hb dX0_sum_12 rfl (lv_at hl 2 rfl) ?_
        refine c_get (u := u) hx hb hts hin hown hK hP 3 (by decide) rfl hf_20 (.int (nI n)) (congrArg (fun z => some (Value.int z)) hn) dX0_sum_13 ?_
        refine lv_icmp_ge (tgt := 47) hx hb dX0_sum_16 (by decide) (fun c2 => ?_) (fun c2 => absurd (Int32.le_refl _) c2)
        refine lv_dload_n hx hb dX0_sum_47 rfl (lv_at hl 1 rfl) ?_
        exact W.dret (v := fo (fun v t => if dl (c_va u v) NN = 0 then t else FP.dadd t (c_va u v)) (n) D0) hx hb hr (fun t ht hW => ⟨⟨(fo (fun v t => if dl (c_va u v) NN = 0 then t else FP.dadd t (c_va u v)) (n) D0), u, rfl, ⟨by simp only [C_sum, if_neg c1] <;> rfl, rfl⟩, by rw [ht]; exact hP, va_K.moved hW.alike hK, hD⟩, hS.F ht⟩) hS.2.2 dX0_sum_48
      | succ r ih =>
        intro i hii H locs ls hP hD hS hl 
        refine lv_iload_n hx hb dX0_sum_11 rfl (lv_at hl 0 rfl) ?_
        refine lv_aload_n hx hb dX0_sum_12 rfl (lv_at hl 2 rfl) ?_
        refine c_get (u := u) hx hb hts hin hown hK hP 3 (by decide) rfl hf_20 (.int (nI n)) (congrArg (fun z => some (Value.int z)) hn) dX0_sum_13 ?_
        refine lv_icmp_ge (tgt := 47) hx hb dX0_sum_16 (by decide) (fun c3 => absurd c3 (nI_ge (b := n) (by omega) (by omega))) (fun c3 => ?_)
        refine lv_aload_n hx hb dX0_sum_19 rfl (lv_at hl 2 rfl) ?_
        refine c_get (u := u) hx hb hts hin hown hK hP 6 (by decide) rfl hf_30 (.ref (g 4)) rfl dX0_sum_20 ?_
        refine lv_iload_n hx hb dX0_sum_23 rfl (lv_at hl 0 rfl) ?_
        refine k_dald hx hb hK hP 4 1 (f := c_va u) (n := 12) rfl rfl (j := i) (by omega) (by decide) dX0_sum_24 ?_
        refine lv_ldc2d hx hb hown hk_88 dX0_sum_25 ?_
        refine k_dcmpl hx hb dX0_sum_28 ?_
        refine lv_if_eq (tgt := 41) hx hb dX0_sum_29 (by decide) (fun c4 => ?_) (fun c4 => ?_)
        · refine lv_iinc (v := nI (i + 1)) (lv' := [(3, .int (nI (i + 1))), (1, .double (fo (fun v t => if dl (c_va u v) NN = 0 then t else FP.dadd t (c_va u v)) (i) D0)), (0, .ref (g 0))]) hx hb dX0_sum_41 hl (k := 0) rfl (nI_1 i) (by decide) rfl (fun ls hl => ?_)
          refine lv_goto (tgt := 11) hx hb dX0_sum_44 (by decide) ?_
          have hL : fo (fun v t => if dl (c_va u v) NN = 0 then t else FP.dadd t (c_va u v)) (i + 1) D0 = fo (fun v t => if dl (c_va u v) NN = 0 then t else FP.dadd t (c_va u v)) (i) D0 := by show (if dl (c_va u i) NN = 0 then _ else _) = _; simp only [if_pos c4]
          exact ih (i + 1) (by omega) _ _ _ hP hD hS (by rw [hL]; exact lv_sub hl [0, 1, 2] rfl) 
        · refine lv_dload_n hx hb dX0_sum_32 rfl (lv_at hl 1 rfl) ?_
          refine lv_aload_n hx hb dX0_sum_33 rfl (lv_at hl 2 rfl) ?_
          refine c_get (u := u) hx hb hts hin hown hK hP 6 (by decide) rfl hf_30 (.ref (g 4)) rfl dX0_sum_34 ?_
          refine lv_iload_n hx hb dX0_sum_37 rfl (lv_at hl 0 rfl) ?_
          refine k_dald hx hb hK hP 4 1 (f := c_va u) (n := 12) rfl rfl (j := i) (by omega) (by decide) dX0_sum_38 ?_
          refine lv_dadd hx hb dX0_sum_39 (hs c1 i (by omega) c4) ?_
          refine lv_dstore_n (lv' := [(1, .double (FP.dadd (fo (fun v t => if dl (c_va u v) NN = 0 then t else FP.dadd t (c_va u v)) (i) D0) ((c_va u) i))), (3, .int (nI (i))), (0, .ref (g 0))]) hx hb dX0_sum_40 rfl hl (by decide) rfl (fun ls hl => ?_)
          refine lv_iinc (v := nI (i + 1)) (lv' := [(3, .int (nI (i + 1))), (1, .double (FP.dadd (fo (fun v t => if dl (c_va u v) NN = 0 then t else FP.dadd t (c_va u v)) (i) D0) ((c_va u) i))), (0, .ref (g 0))]) hx hb dX0_sum_41 hl (k := 1) rfl (nI_1 i) (by decide) rfl (fun ls hl => ?_)
          refine lv_goto (tgt := 11) hx hb dX0_sum_44 (by decide) ?_
          have hL : fo (fun v t => if dl (c_va u v) NN = 0 then t else FP.dadd t (c_va u v)) (i + 1) D0 = FP.dadd (fo (fun v t => if dl (c_va u v) NN = 0 then t else FP.dadd t (c_va u v)) (i) D0) ((c_va u) i) := by show (if dl (c_va u i) NN = 0 then _ else _) = _; simp only [if_neg c4]
          exact ih (i + 1) (by omega) _ _ _ hP hD hS (by rw [hL]; exact lv_sub hl [0, 1, 2] rfl) 
    exact loop (n) 0 (by omega) H locs ls hP hD hS (lv_sub hl [0, 1, 2] rfl) 

set_option maxHeartbeats 4000000 in
set_option maxRecDepth 100000 in
/-- edge -/
theorem t_X0_edge (l : Launch) (D : va_G) (ki : Nat → ClassId) (g : Nat → Nat) (u : CS) (sz : Nat) (a b : Int32) (w : UInt64) (ec : Nat) (he : c_e u = nI ec) (he30 : ec ≤ 30)  : gMi l yX0_edge wsX0_edge ({ frames := 1, cells := 0, slots := 0, locals := 21 }) D (cw ki g) (cty ki) u sz [.ref (g 0), .int a, .int b, .double w] (fun r u' => r = b2 (C_eok (c_n u) (c_e u) a b w) ∧ u' = if C_eok (c_n u) (c_e u) a b w = true then C_edge ec u a b w else u) := by
  refine g_ofi (cc := cX0_edge) (maxL := 5) (ret := some .boolean) (own := RX0) (by decide) rfl rfl ?_
  intro p e s m below meth c A hx hb hr hlocks hml hts hown hK hD hA H locs hP hS
  have hl := lv_entry ([.ref (g 0), .int a, .int b, .double w]) (n := 5) (Nat.le_of_ble_eq_true rfl)
  rw [lg_entry_eq]
  generalize (lg_sl ([.ref (g 0), .int a, .int b, .double w]) ++ List.replicate (5 - (lg_sl ([.ref (g 0), .int a, .int b, .double w])).length) Slot.unset).toArray = ls at hl ⊢
  have hl : lv_has ls 5 [(0, .ref (g 0)), (1, .int a), (2, .int b), (3, .double w)] := hl
  have hf_9 := hts (.fieldLink RX0 9 "StepGraph" "firstEnds" "[I") (by decide +kernel)
  have hf_13 := hts (.fieldLink RX0 13 "StepGraph" "secondEnds" "[I") (by decide +kernel)
  have hf_16 := hts (.fieldLink RX0 16 "StepGraph" "weights" "[D") (by decide +kernel)
  have hf_24 := hts (.fieldLink RX0 24 "StepGraph" "edgeCount" "I") (by decide +kernel)
  have hin : ∀ w ∈ wsX00, w ∈ wsX0_edge := by decide +kernel
  refine lv_aload_n hx hb dX0_edge_0 rfl (lv_at hl 0 rfl) ?_
  refine lv_iload_n hx hb dX0_edge_1 rfl (lv_at hl 1 rfl) ?_
  refine g_calli (w := cw ki g) (u := u) (As := [.int a]) (rest := []) ⟨hx, hb, hml, hown, hts⟩ (t_X0_isVertex l D ki g (u) H.size a ) (cwV 1 hts gX0_edge_X0_isVertex rfl rfl rfl (by decide +kernel) ⟨Nat.le_of_ble_eq_true rfl, Nat.le_of_ble_eq_true rfl⟩) hK hP hD hS hA rfl rfl (cw_0 ki g (u)) rfl hl.1 rfl (Nat.le_of_ble_eq_true rfl) dX0_edge_2 ⟨Nat.zero_le _, Nat.zero_le _⟩ (fun r1 u' H locs hw hP hD hS => ?_)
  obtain ⟨rfl, rfl⟩ := hw
  refine lv_if_eq (tgt := 37) hx hb dX0_edge_5 (by decide) (fun c2 => ?_) (fun c2 => ?_)
  · have c2 := b2_0 c2
    refine lv_iconst (v := 0) hx hb dX0_edge_37 (by decide) ?_
    exact W.zret (ty := .boolean) (v := 0) hx hb hr rfl (fun t ht hW => ⟨⟨0, u, rfl, ⟨by simp only [C_eok, C_edge, he, if_neg c2, Bool.false_eq_true, ↓reduceIte] <;> rfl, by simp only [C_eok, C_edge, he, if_neg c2, Bool.false_eq_true, ↓reduceIte] <;> rfl⟩, by rw [ht]; exact hP, va_K.moved hW.alike hK, hD⟩, hS.F ht⟩) hS.2.2 dX0_edge_38
  · have c2 := b2_1 c2
    refine lv_aload_n hx hb dX0_edge_8 rfl (lv_at hl 0 rfl) ?_
    refine lv_iload_n hx hb dX0_edge_9 rfl (lv_at hl 2 rfl) ?_
    refine g_calli (w := cw ki g) (u := u) (As := [.int b]) (rest := []) ⟨hx, hb, hml, hown, hts⟩ (t_X0_isVertex l D ki g (u) H.size b ) (cwV 1 hts gX0_edge_X0_isVertex rfl rfl rfl (by decide +kernel) ⟨Nat.le_of_ble_eq_true rfl, Nat.le_of_ble_eq_true rfl⟩) hK hP hD hS hA rfl rfl (cw_0 ki g (u)) rfl hl.1 rfl (Nat.le_of_ble_eq_true rfl) dX0_edge_10 ⟨Nat.zero_le _, Nat.zero_le _⟩ (fun r3 u' H locs hw hP hD hS => ?_)
    obtain ⟨rfl, rfl⟩ := hw
    refine lv_if_eq (tgt := 37) hx hb dX0_edge_13 (by decide) (fun c4 => ?_) (fun c4 => ?_)
    · have c4 := b2_0 c4
      refine lv_iconst (v := 0) hx hb dX0_edge_37 (by decide) ?_
      exact W.zret (ty := .boolean) (v := 0) hx hb hr rfl (fun t ht hW => ⟨⟨0, u, rfl, ⟨by simp only [C_eok, C_edge, he, if_pos c2, if_neg c4, Bool.false_eq_true, ↓reduceIte] <;> rfl, by simp only [C_eok, C_edge, he, if_pos c2, if_neg c4, Bool.false_eq_true, ↓reduceIte] <;> rfl⟩, by rw [ht]; exact hP, va_K.moved hW.alike hK, hD⟩, hS.F ht⟩) hS.2.2 dX0_edge_38
    · have c4 := b2_1 c4
      refine lv_iload_n hx hb dX0_edge_16 rfl (lv_at hl 1 rfl) ?_
      refine lv_iload_n hx hb dX0_edge_17 rfl (lv_at hl 2 rfl) ?_
      refine lv_icmp_eq (tgt := 37) hx hb dX0_edge_18 (by decide) (fun c5 => ?_) (fun c5 => ?_)
      · refine lv_iconst (v := 0) hx hb dX0_edge_37 (by decide) ?_
        exact W.zret (ty := .boolean) (v := 0) hx hb hr rfl (fun t ht hW => ⟨⟨0, u, rfl, ⟨by simp only [C_eok, C_edge, he, if_pos c2, if_pos c4, if_pos c5, Bool.false_eq_true, ↓reduceIte] <;> rfl, by simp only [C_eok, C_edge, he, if_pos c2, if_pos c4, if_pos c5, Bool.false_eq_true, ↓reduceIte] <;> rfl⟩, by rw [ht]; exact hP, va_K.moved hW.alike hK, hD⟩, hS.F ht⟩) hS.2.2 dX0_edge_38
      · refine lv_dload_n hx hb dX0_edge_21 rfl (lv_at hl 3 rfl) ?_
        refine va_calli (va_runS (As := [.double w]) (rest := []) ⟨hx, hb, hml, hown, hts⟩ (t_X0_isWeight l w) (va_cwS 1 hts gX0_edge_X0_isWeight rfl rfl rfl (by decide +kernel) ⟨Nat.le_of_ble_eq_true rfl, Nat.le_of_ble_eq_true rfl⟩) ⟨fun a U g mk q => q, fun U hU hW => ⟨rfl, trivial⟩⟩ rfl rfl hl.1 rfl (lv_room (Nat.le_of_ble_eq_true rfl)) dX0_edge_22 ⟨Nat.zero_le _, Nat.zero_le _⟩) hS (fun q _ h => h.elim) (fun q h => h.elim) (fun r6 u' t H1 locs ht hvm hw hB hz1 hk1 hS => ?_)
        subst hw
        have hP := hP.kept (H1 := H1) (fun k q hk => hk1 q.1 (hP k q hk).lt (fun h => h))
        generalize H1 = H at hP hS ⊢
        refine lv_if_eq (tgt := 37) hx hb dX0_edge_25 (by decide) (fun c7 => ?_) (fun c7 => ?_)
        · have c7 := b2_0 c7
          refine lv_iconst (v := 0) hx hb dX0_edge_37 (by decide) ?_
          exact W.zret (ty := .boolean) (v := 0) hx hb hr rfl (fun t ht hW => ⟨⟨0, u, rfl, ⟨by simp only [C_eok, C_edge, he, if_pos c2, if_pos c4, if_neg c5, if_neg c7, Bool.false_eq_true, ↓reduceIte] <;> rfl, by simp only [C_eok, C_edge, he, if_pos c2, if_pos c4, if_neg c5, if_neg c7, Bool.false_eq_true, ↓reduceIte] <;> rfl⟩, by rw [ht]; exact hP, va_K.moved hW.alike hK, hD⟩, hS.F ht⟩) hS.2.2 dX0_edge_38
        · have c7 := b2_1 c7
          refine lv_aload_n hx hb dX0_edge_28 rfl (lv_at hl 0 rfl) ?_
          refine c_get (u := u) hx hb hts hin hown hK hP 4 (by decide) rfl hf_24 (.int (nI ec)) (congrArg (fun z => some (Value.int z)) he) dX0_edge_29 ?_
          refine lv_bipush (v := 30) hx hb dX0_edge_32 (by decide) ?_
          refine lv_icmp_lt (tgt := 39) hx hb dX0_edge_34 (by decide) (fun c8 => ?_) (fun c8 => ?_)
          · have hlt : ec < 30 := (nI_ltI (by omega) (by decide)).mp c8
            refine lv_aload_n hx hb dX0_edge_39 rfl (lv_at hl 0 rfl) ?_
            refine c_get (u := u) hx hb hts hin hown hK hP 0 (by decide) rfl hf_9 (.ref (g 1)) rfl dX0_edge_40 ?_
            refine lv_aload_n hx hb dX0_edge_43 rfl (lv_at hl 0 rfl) ?_
            refine c_get (u := u) hx hb hts hin hown hK hP 4 (by decide) rfl hf_24 (.int (nI ec)) (congrArg (fun z => some (Value.int z)) he) dX0_edge_44 ?_
            refine lv_iload_n hx hb dX0_edge_47 rfl (lv_at hl 1 rfl) ?_
            refine k_iast hx hb hK hP hD hS 1 0 (f := c_fe u) (n := 30) rfl rfl (j := ec) (by omega) (by decide) dX0_edge_48 (fun H locs hP hD hS => ?_)
            have hP : va_P D vwCl (cw ki g (cs_fe u (upd (c_fe u) ec a))) H := hP
            have hD : va_D A (cw ki g (cs_fe u (upd (c_fe u) ec a))) := hD
            refine lv_aload_n hx hb dX0_edge_49 rfl (lv_at hl 0 rfl) ?_
            refine c_get (u := cs_fe u (upd (c_fe u) ec a)) hx hb hts hin hown hK hP 1 (by decide) rfl hf_13 (.ref (g 2)) rfl dX0_edge_50 ?_
            refine lv_aload_n hx hb dX0_edge_53 rfl (lv_at hl 0 rfl) ?_
            refine c_get (u := cs_fe u (upd (c_fe u) ec a)) hx hb hts hin hown hK hP 4 (by decide) rfl hf_24 (.int (nI ec)) (congrArg (fun z => some (Value.int z)) he) dX0_edge_54 ?_
            refine lv_iload_n hx hb dX0_edge_57 rfl (lv_at hl 2 rfl) ?_
            refine k_iast hx hb hK hP hD hS 2 0 (f := c_sd u) (n := 30) rfl rfl (j := ec) (by omega) (by decide) dX0_edge_58 (fun H locs hP hD hS => ?_)
            have hP : va_P D vwCl (cw ki g (cs_sd (cs_fe u (upd (c_fe u) ec a)) (upd (c_sd u) ec b))) H := hP
            have hD : va_D A (cw ki g (cs_sd (cs_fe u (upd (c_fe u) ec a)) (upd (c_sd u) ec b))) := hD
            refine lv_aload_n hx hb dX0_edge_59 rfl (lv_at hl 0 rfl) ?_
            refine c_get (u := cs_sd (cs_fe u (upd (c_fe u) ec a)) (upd (c_sd u) ec b)) hx hb hts hin hown hK hP 2 (by decide) rfl hf_16 (.ref (g 3)) rfl dX0_edge_60 ?_
            refine lv_aload_n hx hb dX0_edge_63 rfl (lv_at hl 0 rfl) ?_
            refine c_get (u := cs_sd (cs_fe u (upd (c_fe u) ec a)) (upd (c_sd u) ec b)) hx hb hts hin hown hK hP 4 (by decide) rfl hf_24 (.int (nI ec)) (congrArg (fun z => some (Value.int z)) he) dX0_edge_64 ?_
            refine lv_dload_n hx hb dX0_edge_67 rfl (lv_at hl 3 rfl) ?_
            refine lv_dconst0 hx hb dX0_edge_68 ?_
            refine k_dcmpl hx hb dX0_edge_69 ?_
            refine lv_if_le (tgt := 77) hx hb dX0_edge_70 (by decide) (fun c9 => ?_) (fun c9 => ?_)
            · refine lv_dconst0 hx hb dX0_edge_77 ?_
              refine k_dast hx hb hK hP hD hS 3 1 (f := c_wt u) (n := 30) rfl rfl (j := ec) (by omega) (by decide) dX0_edge_78 (fun H locs hP hD hS => ?_)
              have hP : va_P D vwCl (cw ki g (cs_wt (cs_sd (cs_fe u (upd (c_fe u) ec a)) (upd (c_sd u) ec b)) (vf_upd (c_wt u) ec D0))) H := hP
              have hD : va_D A (cw ki g (cs_wt (cs_sd (cs_fe u (upd (c_fe u) ec a)) (upd (c_sd u) ec b)) (vf_upd (c_wt u) ec D0))) := hD
              refine lv_aload_n hx hb dX0_edge_79 rfl (lv_at hl 0 rfl) ?_
              refine lv_dup hx hb dX0_edge_80 rfl ?_
              refine c_get (u := cs_wt (cs_sd (cs_fe u (upd (c_fe u) ec a)) (upd (c_sd u) ec b)) (vf_upd (c_wt u) ec D0)) hx hb hts hin hown hK hP 4 (by decide) rfl hf_24 (.int (nI ec)) (congrArg (fun z => some (Value.int z)) he) dX0_edge_81 ?_
              refine lv_iconst (v := 1) hx hb dX0_edge_84 (by decide) ?_
              refine lv_iadd hx hb dX0_edge_85 ?_
              refine c_put (u := cs_wt (cs_sd (cs_fe u (upd (c_fe u) ec a)) (upd (c_sd u) ec b)) (vf_upd (c_wt u) ec D0)) hx hb hts hin hown hK hP hD hS 4 (by decide) rfl rfl hf_24 .int (by decide +kernel) rfl rfl (cs_wt (cs_sd (cs_fe (cs_e u ((nI ec) + 1)) (upd (c_fe u) ec a)) (upd (c_sd u) ec b)) (vf_upd (c_wt u) ec D0)) rfl dX0_edge_86 (fun H locs hP hD hS => ?_)
              refine lv_aload_n hx hb dX0_edge_89 rfl (lv_at hl 0 rfl) ?_
              refine g_callv (w := cw ki g) (u := cs_wt (cs_sd (cs_fe (cs_e u ((nI ec) + 1)) (upd (c_fe u) ec a)) (upd (c_sd u) ec b)) (vf_upd (c_wt u) ec D0)) (As := []) (rest := []) ⟨hx, hb, hml, hown, hts⟩ (t_X0_endRun l D ki g (cs_wt (cs_sd (cs_fe (cs_e u ((nI ec) + 1)) (upd (c_fe u) ec a)) (upd (c_sd u) ec b)) (vf_upd (c_wt u) ec D0)) H.size  ) (cwV 0 hts gX0_edge_X0_endRun rfl rfl rfl (by decide +kernel) ⟨Nat.le_of_ble_eq_true rfl, Nat.le_of_ble_eq_true rfl⟩) hK hP hD hS hA rfl rfl (cw_0 ki g (cs_wt (cs_sd (cs_fe (cs_e u ((nI ec) + 1)) (upd (c_fe u) ec a)) (upd (c_sd u) ec b)) (vf_upd (c_wt u) ec D0))) rfl hl.1 rfl (Nat.le_of_ble_eq_true rfl) dX0_edge_90 ⟨Nat.zero_le _, Nat.zero_le _⟩ (fun u' H locs hw hP hD hS => ?_)
              subst hw
              have hP : va_P D vwCl (cw ki g (cs_wt (cs_sd (cs_fe (cs_cr (cs_de (cs_se (cs_sc (cs_wc (cs_ru (cs_e u ((nI ec) + 1)) 0) 0) 0) 0) 0) 0) (upd (c_fe u) ec a)) (upd (c_sd u) ec b)) (vf_upd (c_wt u) ec D0))) H := hP
              have hD : va_D A (cw ki g (cs_wt (cs_sd (cs_fe (cs_cr (cs_de (cs_se (cs_sc (cs_wc (cs_ru (cs_e u ((nI ec) + 1)) 0) 0) 0) 0) 0) 0) (upd (c_fe u) ec a)) (upd (c_sd u) ec b)) (vf_upd (c_wt u) ec D0))) := hD
              refine lv_iconst (v := 1) hx hb dX0_edge_93 (by decide) ?_
              exact W.zret (ty := .boolean) (v := 1) hx hb hr rfl (fun t ht hW => ⟨⟨1, (cs_wt (cs_sd (cs_fe (cs_cr (cs_de (cs_se (cs_sc (cs_wc (cs_ru (cs_e u ((nI ec) + 1)) 0) 0) 0) 0) 0) 0) (upd (c_fe u) ec a)) (upd (c_sd u) ec b)) (vf_upd (c_wt u) ec D0)), rfl, ⟨by simp only [C_eok, C_edge, he, if_pos c2, if_pos c4, if_neg c5, if_pos c7, if_pos c8, if_pos c9, Bool.false_eq_true, ↓reduceIte] <;> rfl, by simp only [C_eok, C_edge, he, if_pos c2, if_pos c4, if_neg c5, if_pos c7, if_pos c8, if_pos c9, Bool.false_eq_true, ↓reduceIte] <;> rfl⟩, by rw [ht]; exact hP, va_K.moved hW.alike hK, hD⟩, hS.F ht⟩) hS.2.2 dX0_edge_94
            · refine lv_dload_n hx hb dX0_edge_73 rfl (lv_at hl 3 rfl) ?_
              refine lv_goto (tgt := 78) hx hb dX0_edge_74 (by decide) ?_
              refine k_dast hx hb hK hP hD hS 3 1 (f := c_wt u) (n := 30) rfl rfl (j := ec) (by omega) (by decide) dX0_edge_78 (fun H locs hP hD hS => ?_)
              have hP : va_P D vwCl (cw ki g (cs_wt (cs_sd (cs_fe u (upd (c_fe u) ec a)) (upd (c_sd u) ec b)) (vf_upd (c_wt u) ec w))) H := hP
              have hD : va_D A (cw ki g (cs_wt (cs_sd (cs_fe u (upd (c_fe u) ec a)) (upd (c_sd u) ec b)) (vf_upd (c_wt u) ec w))) := hD
              refine lv_aload_n hx hb dX0_edge_79 rfl (lv_at hl 0 rfl) ?_
              refine lv_dup hx hb dX0_edge_80 rfl ?_
              refine c_get (u := cs_wt (cs_sd (cs_fe u (upd (c_fe u) ec a)) (upd (c_sd u) ec b)) (vf_upd (c_wt u) ec w)) hx hb hts hin hown hK hP 4 (by decide) rfl hf_24 (.int (nI ec)) (congrArg (fun z => some (Value.int z)) he) dX0_edge_81 ?_
              refine lv_iconst (v := 1) hx hb dX0_edge_84 (by decide) ?_
              refine lv_iadd hx hb dX0_edge_85 ?_
              refine c_put (u := cs_wt (cs_sd (cs_fe u (upd (c_fe u) ec a)) (upd (c_sd u) ec b)) (vf_upd (c_wt u) ec w)) hx hb hts hin hown hK hP hD hS 4 (by decide) rfl rfl hf_24 .int (by decide +kernel) rfl rfl (cs_wt (cs_sd (cs_fe (cs_e u ((nI ec) + 1)) (upd (c_fe u) ec a)) (upd (c_sd u) ec b)) (vf_upd (c_wt u) ec w)) rfl dX0_edge_86 (fun H locs hP hD hS => ?_)
              refine lv_aload_n hx hb dX0_edge_89 rfl (lv_at hl 0 rfl) ?_
              refine g_callv (w := cw ki g) (u := cs_wt (cs_sd (cs_fe (cs_e u ((nI ec) + 1)) (upd (c_fe u) ec a)) (upd (c_sd u) ec b)) (vf_upd (c_wt u) ec w)) (As := []) (rest := []) ⟨hx, hb, hml, hown, hts⟩ (t_X0_endRun l D ki g (cs_wt (cs_sd (cs_fe (cs_e u ((nI ec) + 1)) (upd (c_fe u) ec a)) (upd (c_sd u) ec b)) (vf_upd (c_wt u) ec w)) H.size  ) (cwV 0 hts gX0_edge_X0_endRun rfl rfl rfl (by decide +kernel) ⟨Nat.le_of_ble_eq_true rfl, Nat.le_of_ble_eq_true rfl⟩) hK hP hD hS hA rfl rfl (cw_0 ki g (cs_wt (cs_sd (cs_fe (cs_e u ((nI ec) + 1)) (upd (c_fe u) ec a)) (upd (c_sd u) ec b)) (vf_upd (c_wt u) ec w))) rfl hl.1 rfl (Nat.le_of_ble_eq_true rfl) dX0_edge_90 ⟨Nat.zero_le _, Nat.zero_le _⟩ (fun u' H locs hw hP hD hS => ?_)
              subst hw
              have hP : va_P D vwCl (cw ki g (cs_wt (cs_sd (cs_fe (cs_cr (cs_de (cs_se (cs_sc (cs_wc (cs_ru (cs_e u ((nI ec) + 1)) 0) 0) 0) 0) 0) 0) (upd (c_fe u) ec a)) (upd (c_sd u) ec b)) (vf_upd (c_wt u) ec w))) H := hP
              have hD : va_D A (cw ki g (cs_wt (cs_sd (cs_fe (cs_cr (cs_de (cs_se (cs_sc (cs_wc (cs_ru (cs_e u ((nI ec) + 1)) 0) 0) 0) 0) 0) 0) (upd (c_fe u) ec a)) (upd (c_sd u) ec b)) (vf_upd (c_wt u) ec w))) := hD
              refine lv_iconst (v := 1) hx hb dX0_edge_93 (by decide) ?_
              exact W.zret (ty := .boolean) (v := 1) hx hb hr rfl (fun t ht hW => ⟨⟨1, (cs_wt (cs_sd (cs_fe (cs_cr (cs_de (cs_se (cs_sc (cs_wc (cs_ru (cs_e u ((nI ec) + 1)) 0) 0) 0) 0) 0) 0) (upd (c_fe u) ec a)) (upd (c_sd u) ec b)) (vf_upd (c_wt u) ec w)), rfl, ⟨by simp only [C_eok, C_edge, he, if_pos c2, if_pos c4, if_neg c5, if_pos c7, if_pos c8, if_neg c9, Bool.false_eq_true, ↓reduceIte] <;> rfl, by simp only [C_eok, C_edge, he, if_pos c2, if_pos c4, if_neg c5, if_pos c7, if_pos c8, if_neg c9, Bool.false_eq_true, ↓reduceIte] <;> rfl⟩, by rw [ht]; exact hP, va_K.moved hW.alike hK, hD⟩, hS.F ht⟩) hS.2.2 dX0_edge_94
          · refine lv_iconst (v := 0) hx hb dX0_edge_37 (by decide) ?_
            exact W.zret (ty := .boolean) (v := 0) hx hb hr rfl (fun t ht hW => ⟨⟨0, u, rfl, ⟨by simp only [C_eok, C_edge, he, if_pos c2, if_pos c4, if_neg c5, if_pos c7, if_neg c8, Bool.false_eq_true, ↓reduceIte] <;> rfl, by simp only [C_eok, C_edge, he, if_pos c2, if_pos c4, if_neg c5, if_pos c7, if_neg c8, Bool.false_eq_true, ↓reduceIte] <;> rfl⟩, by rw [ht]; exact hP, va_K.moved hW.alike hK, hD⟩, hS.F ht⟩) hS.2.2 dX0_edge_38
