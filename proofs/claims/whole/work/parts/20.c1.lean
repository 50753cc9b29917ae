set_option maxHeartbeats 4000000 in
set_option maxRecDepth 100000 in
/-- isVertex -/
theorem t_X0_isVertex (l : Launch) (D : va_G) (ki : Nat → ClassId) (g : Nat → Nat) (u : CS) (sz : Nat) (v : Int32)  : gMi l yX0_isVertex wsX0_isVertex ({ frames := 0, cells := 0, slots := 0, locals := 0 }) D (cw ki g) (cty ki) u sz [.ref (g 0), .int v] (fun r u' => r = b2 (C_isV (c_n u) v) ∧ u' = u) := by
  refine g_ofi (cc := cX0_isVertex) (maxL := 2) (ret := some .boolean) (own := RX0) (by decide) rfl rfl ?_
  intro p e s m below meth c A hx hb hr hlocks hml hts hown hK hD hA H locs hP hS
  have hl := lv_entry ([.ref (g 0), .int v]) (n := 2) (Nat.le_of_ble_eq_true rfl)
  rw [lg_entry_eq]
  generalize (lg_sl ([.ref (g 0), .int v]) ++ List.replicate (2 - (lg_sl ([.ref (g 0), .int v])).length) Slot.unset).toArray = ls at hl ⊢
  have hl : lv_has ls 2 [(0, .ref (g 0)), (1, .int v)] := hl
  have hf_20 := hts (.fieldLink RX0 20 "StepGraph" "vertexCount" "I") (by decide +kernel)
  have hin : ∀ w ∈ wsX00, w ∈ wsX0_isVertex := by decide +kernel
  refine lv_iload_n hx hb dX0_isVertex_0 rfl (lv_at hl 1 rfl) ?_
  refine lv_if_lt (tgt := 16) hx hb dX0_isVertex_1 (by decide) (fun c1 => ?_) (fun c1 => ?_)
  · refine lv_iconst (v := 0) hx hb dX0_isVertex_16 (by decide) ?_
    exact W.zret (ty := .boolean) (v := 0) hx hb hr rfl (fun t ht hW => ⟨⟨0, u, rfl, ⟨by simp only [C_isV, if_pos c1] <;> rfl, rfl⟩, by rw [ht]; exact hP, va_K.moved hW.alike hK, hD⟩, hS.F ht⟩) hS.2.2 dX0_isVertex_17
  · refine lv_iload_n hx hb dX0_isVertex_4 rfl (lv_at hl 1 rfl) ?_
    refine lv_aload_n hx hb dX0_isVertex_5 rfl (lv_at hl 0 rfl) ?_
    refine c_get (u := u) hx hb hts hin hown hK hP 3 (by decide) rfl hf_20 (.int (c_n u)) rfl dX0_isVertex_6 ?_
    refine lv_icmp_ge (tgt := 16) hx hb dX0_isVertex_9 (by decide) (fun c2 => ?_) (fun c2 => ?_)
    · refine lv_iconst (v := 0) hx hb dX0_isVertex_16 (by decide) ?_
      exact W.zret (ty := .boolean) (v := 0) hx hb hr rfl (fun t ht hW => ⟨⟨0, u, rfl, ⟨by simp only [C_isV, if_neg c1, if_pos c2] <;> rfl, rfl⟩, by rw [ht]; exact hP, va_K.moved hW.alike hK, hD⟩, hS.F ht⟩) hS.2.2 dX0_isVertex_17
    · refine lv_iconst (v := 1) hx hb dX0_isVertex_12 (by decide) ?_
      refine lv_goto (tgt := 17) hx hb dX0_isVertex_13 (by decide) ?_
      exact W.zret (ty := .boolean) (v := 1) hx hb hr rfl (fun t ht hW => ⟨⟨1, u, rfl, ⟨by simp only [C_isV, if_neg c1, if_neg c2] <;> rfl, rfl⟩, by rw [ht]; exact hP, va_K.moved hW.alike hK, hD⟩, hS.F ht⟩) hS.2.2 dX0_isVertex_17

set_option maxHeartbeats 4000000 in
set_option maxRecDepth 100000 in
/-- isPart -/
theorem t_X0_isPart (l : Launch) (D : va_G) (ki : Nat → ClassId) (g : Nat → Nat) (u : CS) (sz : Nat) (v : Int32)  : gMi l yX0_isPart wsX0_isPart ({ frames := 0, cells := 0, slots := 0, locals := 0 }) D (cw ki g) (cty ki) u sz [.ref (g 0), .int v] (fun r u' => r = b2 (C_isV (c_k u) v) ∧ u' = u) := by
  refine g_ofi (cc := cX0_isPart) (maxL := 2) (ret := some .boolean) (own := RX0) (by decide) rfl rfl ?_
  intro p e s m below meth c A hx hb hr hlocks hml hts hown hK hD hA H locs hP hS
  have hl := lv_entry ([.ref (g 0), .int v]) (n := 2) (Nat.le_of_ble_eq_true rfl)
  rw [lg_entry_eq]
  generalize (lg_sl ([.ref (g 0), .int v]) ++ List.replicate (2 - (lg_sl ([.ref (g 0), .int v])).length) Slot.unset).toArray = ls at hl ⊢
  have hl : lv_has ls 2 [(0, .ref (g 0)), (1, .int v)] := hl
  have hf_27 := hts (.fieldLink RX0 27 "StepGraph" "partCount" "I") (by decide +kernel)
  have hin : ∀ w ∈ wsX00, w ∈ wsX0_isPart := by decide +kernel
  refine lv_iload_n hx hb dX0_isPart_0 rfl (lv_at hl 1 rfl) ?_
  refine lv_if_lt (tgt := 16) hx hb dX0_isPart_1 (by decide) (fun c1 => ?_) (fun c1 => ?_)
  · refine lv_iconst (v := 0) hx hb dX0_isPart_16 (by decide) ?_
    exact W.zret (ty := .boolean) (v := 0) hx hb hr rfl (fun t ht hW => ⟨⟨0, u, rfl, ⟨by simp only [C_isV, if_pos c1] <;> rfl, rfl⟩, by rw [ht]; exact hP, va_K.moved hW.alike hK, hD⟩, hS.F ht⟩) hS.2.2 dX0_isPart_17
  · refine lv_iload_n hx hb dX0_isPart_4 rfl (lv_at hl 1 rfl) ?_
    refine lv_aload_n hx hb dX0_isPart_5 rfl (lv_at hl 0 rfl) ?_
    refine c_get (u := u) hx hb hts hin hown hK hP 5 (by decide) rfl hf_27 (.int (c_k u)) rfl dX0_isPart_6 ?_
    refine lv_icmp_ge (tgt := 16) hx hb dX0_isPart_9 (by decide) (fun c2 => ?_) (fun c2 => ?_)
    · refine lv_iconst (v := 0) hx hb dX0_isPart_16 (by decide) ?_
      exact W.zret (ty := .boolean) (v := 0) hx hb hr rfl (fun t ht hW => ⟨⟨0, u, rfl, ⟨by simp only [C_isV, if_neg c1, if_pos c2] <;> rfl, rfl⟩, by rw [ht]; exact hP, va_K.moved hW.alike hK, hD⟩, hS.F ht⟩) hS.2.2 dX0_isPart_17
    · refine lv_iconst (v := 1) hx hb dX0_isPart_12 (by decide) ?_
      refine lv_goto (tgt := 17) hx hb dX0_isPart_13 (by decide) ?_
      exact W.zret (ty := .boolean) (v := 1) hx hb hr rfl (fun t ht hW => ⟨⟨1, u, rfl, ⟨by simp only [C_isV, if_neg c1, if_neg c2] <;> rfl, rfl⟩, by rw [ht]; exact hP, va_K.moved hW.alike hK, hD⟩, hS.F ht⟩) hS.2.2 dX0_isPart_17

set_option maxHeartbeats 4000000 in
set_option maxRecDepth 100000 in
/-- partOf -/
theorem t_X0_partOf (l : Launch) (D : va_G) (ki : Nat → ClassId) (g : Nat → Nat) (u : CS) (sz : Nat) (f k : Nat) (hk : c_k u = nI k) (hk1 : 0 < k) (hk4 : k ≤ 4) (hf : f < 12) : gMi l yX0_partOf wsX0_partOf ({ frames := 0, cells := 0, slots := 0, locals := 0 }) D (cw ki g) (cty ki) u sz [.ref (g 0), .int (nI f)] (fun r u' => r = nI (f % k) ∧ u' = u) := by
  refine g_ofi (cc := cX0_partOf) (maxL := 2) (ret := some .int) (own := RX0) (by decide) rfl rfl ?_
  intro p e s m below meth c A hx hb hr hlocks hml hts hown hK hD hA H locs hP hS
  have hl := lv_entry ([.ref (g 0), .int (nI f)]) (n := 2) (Nat.le_of_ble_eq_true rfl)
  rw [lg_entry_eq]
  generalize (lg_sl ([.ref (g 0), .int (nI f)]) ++ List.replicate (2 - (lg_sl ([.ref (g 0), .int (nI f)])).length) Slot.unset).toArray = ls at hl ⊢
  have hl : lv_has ls 2 [(0, .ref (g 0)), (1, .int (nI f))] := hl
  have hf_27 := hts (.fieldLink RX0 27 "StepGraph" "partCount" "I") (by decide +kernel)
  have hin : ∀ w ∈ wsX00, w ∈ wsX0_partOf := by decide +kernel
  refine lv_iload_n hx hb dX0_partOf_0 rfl (lv_at hl 1 rfl) ?_
  refine lv_aload_n hx hb dX0_partOf_1 rfl (lv_at hl 0 rfl) ?_
  refine c_get (u := u) hx hb hts hin hown hK hP 5 (by decide) rfl hf_27 (.int (nI k)) (congrArg (fun z => some (Value.int z)) hk) dX0_partOf_2 ?_
  refine lv_irem hx hb dX0_partOf_5 (nI_ne0 hk1 (by omega)) ?_
  exact W.iret (v := (nI f) - (nI f) / (nI k) * (nI k)) hx hb hr (fun t ht hW => ⟨⟨((nI f) - (nI f) / (nI k) * (nI k)), u, rfl, ⟨pk_rem (by omega) hk1 (by omega), rfl⟩, by rw [ht]; exact hP, va_K.moved hW.alike hK, hD⟩, hS.F ht⟩) hS.2.2 dX0_partOf_6

set_option maxHeartbeats 4000000 in
set_option maxRecDepth 100000 in
/-- endRun -/
theorem t_X0_endRun (l : Launch) (D : va_G) (ki : Nat → ClassId) (g : Nat → Nat) (u : CS) (sz : Nat)   : gMv l yX0_endRun wsX0_endRun ({ frames := 0, cells := 0, slots := 0, locals := 0 }) D (cw ki g) (cty ki) u sz [.ref (g 0)] (fun u' => u' = C_end u) := by
  refine g_ofv (cc := cX0_endRun) (maxL := 1) (ret := none) (own := RX0) (by decide) rfl rfl ?_
  intro p e s m below meth c A hx hb hr hlocks hml hts hown hK hD hA H locs hP hS
  have hl := lv_entry ([.ref (g 0)]) (n := 1) (Nat.le_of_ble_eq_true rfl)
  rw [lg_entry_eq]
  generalize (lg_sl ([.ref (g 0)]) ++ List.replicate (1 - (lg_sl ([.ref (g 0)])).length) Slot.unset).toArray = ls at hl ⊢
  have hl : lv_has ls 1 [(0, .ref (g 0))] := hl
  have hf_42 := hts (.fieldLink RX0 42 "StepGraph" "running" "Z") (by decide +kernel)
  have hf_49 := hts (.fieldLink RX0 49 "StepGraph" "waitingCount" "I") (by decide +kernel)
  have hf_52 := hts (.fieldLink RX0 52 "StepGraph" "stepCount" "I") (by decide +kernel)
  have hf_55 := hts (.fieldLink RX0 55 "StepGraph" "sentCount" "I") (by decide +kernel)
  have hf_58 := hts (.fieldLink RX0 58 "StepGraph" "deliveredCount" "I") (by decide +kernel)
  have hf_61 := hts (.fieldLink RX0 61 "StepGraph" "crossedCount" "I") (by decide +kernel)
  have hin : ∀ w ∈ wsX00, w ∈ wsX0_endRun := by decide +kernel
  refine lv_aload_n hx hb dX0_endRun_0 rfl (lv_at hl 0 rfl) ?_
  refine lv_iconst (v := 0) hx hb dX0_endRun_1 (by decide) ?_
  refine c_put (u := u) hx hb hts hin hown hK hP hD hS 9 (by decide) rfl rfl hf_42 .boolean (by decide +kernel) rfl rfl (cs_ru u 0) rfl dX0_endRun_2 (fun H locs hP hD hS => ?_)
  refine lv_aload_n hx hb dX0_endRun_5 rfl (lv_at hl 0 rfl) ?_
  refine lv_iconst (v := 0) hx hb dX0_endRun_6 (by decide) ?_
  refine c_put (u := cs_ru u 0) hx hb hts hin hown hK hP hD hS 11 (by decide) rfl rfl hf_49 .int (by decide +kernel) rfl rfl (cs_wc (cs_ru u 0) 0) rfl dX0_endRun_7 (fun H locs hP hD hS => ?_)
  refine lv_aload_n hx hb dX0_endRun_10 rfl (lv_at hl 0 rfl) ?_
  refine lv_iconst (v := 0) hx hb dX0_endRun_11 (by decide) ?_
  refine c_put (u := cs_wc (cs_ru u 0) 0) hx hb hts hin hown hK hP hD hS 12 (by decide) rfl rfl hf_52 .int (by decide +kernel) rfl rfl (cs_sc (cs_wc (cs_ru u 0) 0) 0) rfl dX0_endRun_12 (fun H locs hP hD hS => ?_)
  refine lv_aload_n hx hb dX0_endRun_15 rfl (lv_at hl 0 rfl) ?_
  refine lv_iconst (v := 0) hx hb dX0_endRun_16 (by decide) ?_
  refine c_put (u := cs_sc (cs_wc (cs_ru u 0) 0) 0) hx hb hts hin hown hK hP hD hS 13 (by decide) rfl rfl hf_55 .int (by decide +kernel) rfl rfl (cs_se (cs_sc (cs_wc (cs_ru u 0) 0) 0) 0) rfl dX0_endRun_17 (fun H locs hP hD hS => ?_)
  refine lv_aload_n hx hb dX0_endRun_20 rfl (lv_at hl 0 rfl) ?_
  refine lv_iconst (v := 0) hx hb dX0_endRun_21 (by decide) ?_
  refine c_put (u := cs_se (cs_sc (cs_wc (cs_ru u 0) 0) 0) 0) hx hb hts hin hown hK hP hD hS 14 (by decide) rfl rfl hf_58 .int (by decide +kernel) rfl rfl (cs_de (cs_se (cs_sc (cs_wc (cs_ru u 0) 0) 0) 0) 0) rfl dX0_endRun_22 (fun H locs hP hD hS => ?_)
  refine lv_aload_n hx hb dX0_endRun_25 rfl (lv_at hl 0 rfl) ?_
  refine lv_iconst (v := 0) hx hb dX0_endRun_26 (by decide) ?_
  refine c_put (u := cs_de (cs_se (cs_sc (cs_wc (cs_ru u 0) 0) 0) 0) 0) hx hb hts hin hown hK hP hD hS 15 (by decide) rfl rfl hf_61 .int (by decide +kernel) rfl rfl (cs_cr (cs_de (cs_se (cs_sc (cs_wc (cs_ru u 0) 0) 0) 0) 0) 0) rfl dX0_endRun_27 (fun H locs hP hD hS => ?_)
  exact W.vret hx hb hr (fun t ht hW => ⟨⟨(cs_cr (cs_de (cs_se (cs_sc (cs_wc (cs_ru u 0) 0) 0) 0) 0) 0), rfl, rfl, by rw [ht]; exact hP, va_K.moved hW.alike hK, hD⟩, hS.F ht⟩) hS.2.2 dX0_endRun_30

set_option maxHeartbeats 4000000 in
set_option maxRecDepth 100000 in
/-- firstValue -/
theorem t_X0_firstValue (l : Launch) (D : va_G) (ki : Nat → ClassId) (g : Nat → Nat) (u : CS) (sz : Nat) (v so : Int32)  : gMd l yX0_firstValue wsX0_firstValue ({ frames := 0, cells := 0, slots := 0, locals := 0 }) D (cw ki g) (cty ki) u sz [.ref (g 0), .int v, .int so] (fun r u' => r = C_first (c_pr u) v so ∧ u' = u) := by
  refine g_ofd (cc := cX0_firstValue) (maxL := 3) (ret := some .double) (own := RX0) (by decide) rfl rfl ?_
  intro p e s m below meth c A hx hb hr hlocks hml hts hown hK hD hA H locs hP hS
  have hl := lv_entry ([.ref (g 0), .int v, .int so]) (n := 3) (Nat.le_of_ble_eq_true rfl)
  rw [lg_entry_eq]
  generalize (lg_sl ([.ref (g 0), .int v, .int so]) ++ List.replicate (3 - (lg_sl ([.ref (g 0), .int v, .int so])).length) Slot.unset).toArray = ls at hl ⊢
  have hl : lv_has ls 3 [(0, .ref (g 0)), (1, .int v), (2, .int so)] := hl
  have hf_46 := hts (.fieldLink RX0 46 "StepGraph" "runProgram" "I") (by decide +kernel)
  have hk_88 := hts (.constantDouble RX0 88 (13830554455654793216)) (by decide +kernel)
  have hk_107 := hts (.constantDouble RX0 107 (4696837146684686336)) (by decide +kernel)
  have hin : ∀ w ∈ wsX00, w ∈ wsX0_firstValue := by decide +kernel
  refine lv_aload_n hx hb dX0_firstValue_0 rfl (lv_at hl 0 rfl) ?_
  refine c_get (u := u) hx hb hts hin hown hK hP 10 (by decide) rfl hf_46 (.int (c_pr u)) rfl dX0_firstValue_1 ?_
  refine lv_iconst (v := 1) hx hb dX0_firstValue_4 (by decide) ?_
  refine lv_icmp_ne (tgt := 11) hx hb dX0_firstValue_5 (by decide) (fun c1 => ?_) (fun c1 => ?_)
  · refine lv_iload_n hx hb dX0_firstValue_11 rfl (lv_at hl 1 rfl) ?_
    refine lv_iload_n hx hb dX0_firstValue_12 rfl (lv_at hl 2 rfl) ?_
    refine lv_icmp_eq (tgt := 20) hx hb dX0_firstValue_13 (by decide) (fun c2 => ?_) (fun c2 => ?_)
    · refine lv_aload_n hx hb dX0_firstValue_20 rfl (lv_at hl 0 rfl) ?_
      refine c_get (u := u) hx hb hts hin hown hK hP 10 (by decide) rfl hf_46 (.int (c_pr u)) rfl dX0_firstValue_21 ?_
      refine lv_iconst (v := 3) hx hb dX0_firstValue_24 (by decide) ?_
      refine lv_icmp_ne (tgt := 34) hx hb dX0_firstValue_25 (by decide) (fun c3 => ?_) (fun c3 => ?_)
      · refine lv_dconst0 hx hb dX0_firstValue_34 ?_
        exact W.dret (v := D0) hx hb hr (fun t ht hW => ⟨⟨D0, u, rfl, ⟨by simp only [C_first, if_neg c1, if_pos c2, if_neg c3] <;> rfl, rfl⟩, by rw [ht]; exact hP, va_K.moved hW.alike hK, hD⟩, hS.F ht⟩) hS.2.2 dX0_firstValue_35
      · refine lv_ldc2d hx hb hown hk_107 dX0_firstValue_28 ?_
        refine lv_goto (tgt := 35) hx hb dX0_firstValue_31 (by decide) ?_
        exact W.dret (v := MX) hx hb hr (fun t ht hW => ⟨⟨MX, u, rfl, ⟨by simp only [C_first, if_neg c1, if_pos c2, if_pos c3] <;> rfl, rfl⟩, by rw [ht]; exact hP, va_K.moved hW.alike hK, hD⟩, hS.F ht⟩) hS.2.2 dX0_firstValue_35
    · refine lv_ldc2d hx hb hown hk_88 dX0_firstValue_16 ?_
      exact W.dret (v := NN) hx hb hr (fun t ht hW => ⟨⟨NN, u, rfl, ⟨by simp only [C_first, if_neg c1, if_neg c2] <;> rfl, rfl⟩, by rw [ht]; exact hP, va_K.moved hW.alike hK, hD⟩, hS.F ht⟩) hS.2.2 dX0_firstValue_19
  · refine lv_iload_n hx hb dX0_firstValue_8 rfl (lv_at hl 1 rfl) ?_
    refine lv_i2d hx hb dX0_firstValue_9 ?_
    exact W.dret (v := FP.i2d v) hx hb hr (fun t ht hW => ⟨⟨(FP.i2d v), u, rfl, ⟨by simp only [C_first, if_pos c1] <;> rfl, rfl⟩, by rw [ht]; exact hP, va_K.moved hW.alike hK, hD⟩, hS.F ht⟩) hS.2.2 dX0_firstValue_10

set_option maxHeartbeats 4000000 in
set_option maxRecDepth 100000 in
/-- messageOf -/
theorem t_X0_messageOf (l : Launch) (D : va_G) (ki : Nat → ClassId) (g : Nat → Nat) (u : CS) (sz : Nat) (x w : UInt64) (h0 : vf_n64 (FP.dadd x w)) (h2 : vf_n64 (FP.dadd x D1)) : gMd l yX0_messageOf wsX0_messageOf ({ frames := 0, cells := 0, slots := 0, locals := 0 }) D (cw ki g) (cty ki) u sz [.ref (g 0), .double x, .double w] (fun r u' => r = C_msg (c_pr u) x w ∧ u' = u) := by
  refine g_ofd (cc := cX0_messageOf) (maxL := 5) (ret := some .double) (own := RX0) (by decide) rfl rfl ?_
  intro p e s m below meth c A hx hb hr hlocks hml hts hown hK hD hA H locs hP hS
  have hl := lv_entry ([.ref (g 0), .double x, .double w]) (n := 5) (Nat.le_of_ble_eq_true rfl)
  rw [lg_entry_eq]
  generalize (lg_sl ([.ref (g 0), .double x, .double w]) ++ List.replicate (5 - (lg_sl ([.ref (g 0), .double x, .double w])).length) Slot.unset).toArray = ls at hl ⊢
  have hl : lv_has ls 5 [(0, .ref (g 0)), (1, .double x), (3, .double w)] := hl
  have hf_46 := hts (.fieldLink RX0 46 "StepGraph" "runProgram" "I") (by decide +kernel)
  have hin : ∀ w ∈ wsX00, w ∈ wsX0_messageOf := by decide +kernel
  refine lv_aload_n hx hb dX0_messageOf_0 rfl (lv_at hl 0 rfl) ?_
  refine c_get (u := u) hx hb hts hin hown hK hP 10 (by decide) rfl hf_46 (.int (c_pr u)) rfl dX0_messageOf_1 ?_
  refine lv_if_ne (tgt := 11) hx hb dX0_messageOf_4 (by decide) (fun c1 => ?_) (fun c1 => ?_)
  · refine lv_aload_n hx hb dX0_messageOf_11 rfl (lv_at hl 0 rfl) ?_
    refine c_get (u := u) hx hb hts hin hown hK hP 10 (by decide) rfl hf_46 (.int (c_pr u)) rfl dX0_messageOf_12 ?_
    refine lv_iconst (v := 1) hx hb dX0_messageOf_15 (by decide) ?_
    refine lv_icmp_ne (tgt := 21) hx hb dX0_messageOf_16 (by decide) (fun c2 => ?_) (fun c2 => ?_)
    · refine lv_aload_n hx hb dX0_messageOf_21 rfl (lv_at hl 0 rfl) ?_
      refine c_get (u := u) hx hb hts hin hown hK hP 10 (by decide) rfl hf_46 (.int (c_pr u)) rfl dX0_messageOf_22 ?_
      refine lv_iconst (v := 2) hx hb dX0_messageOf_25 (by decide) ?_
      refine lv_icmp_ne (tgt := 33) hx hb dX0_messageOf_26 (by decide) (fun c3 => ?_) (fun c3 => ?_)
      · refine lv_dload_n hx hb dX0_messageOf_33 rfl (lv_at hl 1 rfl) ?_
        refine lv_dload_n hx hb dX0_messageOf_34 rfl (lv_at hl 2 rfl) ?_
        refine k_dcmpg hx hb dX0_messageOf_35 ?_
        refine lv_if_gt (tgt := 43) hx hb dX0_messageOf_36 (by decide) (fun c4 => ?_) (fun c4 => ?_)
        · refine lv_dload_n hx hb dX0_messageOf_43 rfl (lv_at hl 2 rfl) ?_
          exact W.dret (v := w) hx hb hr (fun t ht hW => ⟨⟨w, u, rfl, ⟨by simp only [C_msg, if_neg c1, if_neg c2, if_neg c3, if_pos c4] <;> rfl, rfl⟩, by rw [ht]; exact hP, va_K.moved hW.alike hK, hD⟩, hS.F ht⟩) hS.2.2 dX0_messageOf_44
        · refine lv_dload_n hx hb dX0_messageOf_39 rfl (lv_at hl 1 rfl) ?_
          refine lv_goto (tgt := 44) hx hb dX0_messageOf_40 (by decide) ?_
          exact W.dret (v := x) hx hb hr (fun t ht hW => ⟨⟨x, u, rfl, ⟨by simp only [C_msg, if_neg c1, if_neg c2, if_neg c3, if_neg c4] <;> rfl, rfl⟩, by rw [ht]; exact hP, va_K.moved hW.alike hK, hD⟩, hS.F ht⟩) hS.2.2 dX0_messageOf_44
      · refine lv_dload_n hx hb dX0_messageOf_29 rfl (lv_at hl 1 rfl) ?_
        refine lv_dconst1 hx hb dX0_messageOf_30 ?_
        refine lv_dadd hx hb dX0_messageOf_31 h2 ?_
        exact W.dret (v := FP.dadd x D1) hx hb hr (fun t ht hW => ⟨⟨(FP.dadd x D1), u, rfl, ⟨by simp only [C_msg, if_neg c1, if_neg c2, if_pos c3] <;> rfl, rfl⟩, by rw [ht]; exact hP, va_K.moved hW.alike hK, hD⟩, hS.F ht⟩) hS.2.2 dX0_messageOf_32
    · refine lv_dload_n hx hb dX0_messageOf_19 rfl (lv_at hl 1 rfl) ?_
      exact W.dret (v := x) hx hb hr (fun t ht hW => ⟨⟨x, u, rfl, ⟨by simp only [C_msg, if_neg c1, if_pos c2] <;> rfl, rfl⟩, by rw [ht]; exact hP, va_K.moved hW.alike hK, hD⟩, hS.F ht⟩) hS.2.2 dX0_messageOf_20
  · refine lv_dload_n hx hb dX0_messageOf_7 rfl (lv_at hl 1 rfl) ?_
    refine lv_dload_n hx hb dX0_messageOf_8 rfl (lv_at hl 2 rfl) ?_
    refine lv_dadd hx hb dX0_messageOf_9 h0 ?_
    exact W.dret (v := FP.dadd x w) hx hb hr (fun t ht hW => ⟨⟨(FP.dadd x w), u, rfl, ⟨by simp only [C_msg, if_pos c1] <;> rfl, rfl⟩, by rw [ht]; exact hP, va_K.moved hW.alike hK, hD⟩, hS.F ht⟩) hS.2.2 dX0_messageOf_10

set_option maxHeartbeats 4000000 in
set_option maxRecDepth 100000 in
/-- isBetter -/
theorem t_X0_isBetter (l : Launch) (D : va_G) (ki : Nat → ClassId) (g : Nat → Nat) (u : CS) (sz : Nat) (x y : UInt64)  : gMi l yX0_isBetter wsX0_isBetter ({ frames := 0, cells := 0, slots := 0, locals := 0 }) D (cw ki g) (cty ki) u sz [.ref (g 0), .double x, .double y] (fun r u' => r = b2 (C_bet (c_pr u) x y) ∧ u' = u) := by
  refine g_ofi (cc := cX0_isBetter) (maxL := 5) (ret := some .boolean) (own := RX0) (by decide) rfl rfl ?_
  intro p e s m below meth c A hx hb hr hlocks hml hts hown hK hD hA H locs hP hS
  have hl := lv_entry ([.ref (g 0), .double x, .double y]) (n := 5) (Nat.le_of_ble_eq_true rfl)
  rw [lg_entry_eq]
  generalize (lg_sl ([.ref (g 0), .double x, .double y]) ++ List.replicate (5 - (lg_sl ([.ref (g 0), .double x, .double y])).length) Slot.unset).toArray = ls at hl ⊢
  have hl : lv_has ls 5 [(0, .ref (g 0)), (1, .double x), (3, .double y)] := hl
  have hf_46 := hts (.fieldLink RX0 46 "StepGraph" "runProgram" "I") (by decide +kernel)
  have hk_88 := hts (.constantDouble RX0 88 (13830554455654793216)) (by decide +kernel)
  have hin : ∀ w ∈ wsX00, w ∈ wsX0_isBetter := by decide +kernel
  refine lv_dload_n hx hb dX0_isBetter_0 rfl (lv_at hl 1 rfl) ?_
  refine lv_ldc2d hx hb hown hk_88 dX0_isBetter_1 ?_
  refine k_dcmpl hx hb dX0_isBetter_4 ?_
  refine lv_if_ne (tgt := 10) hx hb dX0_isBetter_5 (by decide) (fun c1 => ?_) (fun c1 => ?_)
  · refine lv_dload_n hx hb dX0_isBetter_10 rfl (lv_at hl 2 rfl) ?_
    refine lv_ldc2d hx hb hown hk_88 dX0_isBetter_11 ?_
    refine k_dcmpl hx hb dX0_isBetter_14 ?_
    refine lv_if_ne (tgt := 20) hx hb dX0_isBetter_15 (by decide) (fun c2 => ?_) (fun c2 => ?_)
    · refine lv_aload_n hx hb dX0_isBetter_20 rfl (lv_at hl 0 rfl) ?_
      refine c_get (u := u) hx hb hts hin hown hK hP 10 (by decide) rfl hf_46 (.int (c_pr u)) rfl dX0_isBetter_21 ?_
      refine lv_iconst (v := 3) hx hb dX0_isBetter_24 (by decide) ?_
      refine lv_icmp_ne (tgt := 42) hx hb dX0_isBetter_25 (by decide) (fun c3 => ?_) (fun c3 => ?_)
      · refine lv_dload_n hx hb dX0_isBetter_42 rfl (lv_at hl 1 rfl) ?_
        refine lv_dload_n hx hb dX0_isBetter_43 rfl (lv_at hl 2 rfl) ?_
        refine k_dcmpg hx hb dX0_isBetter_44 ?_
        refine lv_if_ge (tgt := 52) hx hb dX0_isBetter_45 (by decide) (fun c4 => ?_) (fun c4 => ?_)
        · refine lv_iconst (v := 0) hx hb dX0_isBetter_52 (by decide) ?_
          exact W.zret (ty := .boolean) (v := 0) hx hb hr rfl (fun t ht hW => ⟨⟨0, u, rfl, ⟨by simp only [C_bet, if_neg c1, if_neg c2, if_neg c3, if_pos c4] <;> rfl, rfl⟩, by rw [ht]; exact hP, va_K.moved hW.alike hK, hD⟩, hS.F ht⟩) hS.2.2 dX0_isBetter_53
        · refine lv_iconst (v := 1) hx hb dX0_isBetter_48 (by decide) ?_
          refine lv_goto (tgt := 53) hx hb dX0_isBetter_49 (by decide) ?_
          exact W.zret (ty := .boolean) (v := 1) hx hb hr rfl (fun t ht hW => ⟨⟨1, u, rfl, ⟨by simp only [C_bet, if_neg c1, if_neg c2, if_neg c3, if_neg c4] <;> rfl, rfl⟩, by rw [ht]; exact hP, va_K.moved hW.alike hK, hD⟩, hS.F ht⟩) hS.2.2 dX0_isBetter_53
      · refine lv_dload_n hx hb dX0_isBetter_28 rfl (lv_at hl 1 rfl) ?_
        refine lv_dload_n hx hb dX0_isBetter_29 rfl (lv_at hl 2 rfl) ?_
        refine k_dcmpl hx hb dX0_isBetter_30 ?_
        refine lv_if_le (tgt := 38) hx hb dX0_isBetter_31 (by decide) (fun c5 => ?_) (fun c5 => ?_)
        · refine lv_iconst (v := 0) hx hb dX0_isBetter_38 (by decide) ?_
          refine lv_goto (tgt := 53) hx hb dX0_isBetter_39 (by decide) ?_
          exact W.zret (ty := .boolean) (v := 0) hx hb hr rfl (fun t ht hW => ⟨⟨0, u, rfl, ⟨by simp only [C_bet, if_neg c1, if_neg c2, if_pos c3, if_pos c5] <;> rfl, rfl⟩, by rw [ht]; exact hP, va_K.moved hW.alike hK, hD⟩, hS.F ht⟩) hS.2.2 dX0_isBetter_53
        · refine lv_iconst (v := 1) hx hb dX0_isBetter_34 (by decide) ?_
          refine lv_goto (tgt := 53) hx hb dX0_isBetter_35 (by decide) ?_
          exact W.zret (ty := .boolean) (v := 1) hx hb hr rfl (fun t ht hW => ⟨⟨1, u, rfl, ⟨by simp only [C_bet, if_neg c1, if_neg c2, if_pos c3, if_neg c5] <;> rfl, rfl⟩, by rw [ht]; exact hP, va_K.moved hW.alike hK, hD⟩, hS.F ht⟩) hS.2.2 dX0_isBetter_53
    · refine lv_iconst (v := 1) hx hb dX0_isBetter_18 (by decide) ?_
      exact W.zret (ty := .boolean) (v := 1) hx hb hr rfl (fun t ht hW => ⟨⟨1, u, rfl, ⟨by simp only [C_bet, if_neg c1, if_pos c2] <;> rfl, rfl⟩, by rw [ht]; exact hP, va_K.moved hW.alike hK, hD⟩, hS.F ht⟩) hS.2.2 dX0_isBetter_19
  · refine lv_iconst (v := 0) hx hb dX0_isBetter_8 (by decide) ?_
    exact W.zret (ty := .boolean) (v := 0) hx hb hr rfl (fun t ht hW => ⟨⟨0, u, rfl, ⟨by simp only [C_bet, if_pos c1] <;> rfl, rfl⟩, by rw [ht]; exact hP, va_K.moved hW.alike hK, hD⟩, hS.F ht⟩) hS.2.2 dX0_isBetter_9

set_option maxHeartbeats 4000000 in
set_option maxRecDepth 100000 in
/-- steps -/
theorem t_X0_steps (l : Launch) (D : va_G) (ki : Nat → ClassId) (g : Nat → Nat) (u : CS) (sz : Nat)   : gMi l yX0_steps wsX0_steps ({ frames := 0, cells := 0, slots := 0, locals := 0 }) D (cw ki g) (cty ki) u sz [.ref (g 0)] (fun r u' => r = c_sc u ∧ u' = u) := by
  refine g_ofi (cc := cX0_steps) (maxL := 1) (ret := some .int) (own := RX0) (by decide) rfl rfl ?_
  intro p e s m below meth c A hx hb hr hlocks hml hts hown hK hD hA H locs hP hS
  have hl := lv_entry ([.ref (g 0)]) (n := 1) (Nat.le_of_ble_eq_true rfl)
  rw [lg_entry_eq]
  generalize (lg_sl ([.ref (g 0)]) ++ List.replicate (1 - (lg_sl ([.ref (g 0)])).length) Slot.unset).toArray = ls at hl ⊢
  have hl : lv_has ls 1 [(0, .ref (g 0))] := hl
  have hf_52 := hts (.fieldLink RX0 52 "StepGraph" "stepCount" "I") (by decide +kernel)
  have hin : ∀ w ∈ wsX00, w ∈ wsX0_steps := by decide +kernel
  refine lv_aload_n hx hb dX0_steps_0 rfl (lv_at hl 0 rfl) ?_
  refine c_get (u := u) hx hb hts hin hown hK hP 12 (by decide) rfl hf_52 (.int (c_sc u)) rfl dX0_steps_1 ?_
  exact W.iret (v := c_sc u) hx hb hr (fun t ht hW => ⟨⟨(c_sc u), u, rfl, ⟨rfl, rfl⟩, by rw [ht]; exact hP, va_K.moved hW.alike hK, hD⟩, hS.F ht⟩) hS.2.2 dX0_steps_4

set_option maxHeartbeats 4000000 in
set_option maxRecDepth 100000 in
/-- sent -/
theorem t_X0_sent (l : Launch) (D : va_G) (ki : Nat → ClassId) (g : Nat → Nat) (u : CS) (sz : Nat)   : gMi l yX0_sent wsX0_sent ({ frames := 0, cells := 0, slots := 0, locals := 0 }) D (cw ki g) (cty ki) u sz [.ref (g 0)] (fun r u' => r = c_se u ∧ u' = u) := by
  refine g_ofi (cc := cX0_sent) (maxL := 1) (ret := some .int) (own := RX0) (by decide) rfl rfl ?_
  intro p e s m below meth c A hx hb hr hlocks hml hts hown hK hD hA H locs hP hS
  have hl := lv_entry ([.ref (g 0)]) (n := 1) (Nat.le_of_ble_eq_true rfl)
  rw [lg_entry_eq]
  generalize (lg_sl ([.ref (g 0)]) ++ List.replicate (1 - (lg_sl ([.ref (g 0)])).length) Slot.unset).toArray = ls at hl ⊢
  have hl : lv_has ls 1 [(0, .ref (g 0))] := hl
  have hf_55 := hts (.fieldLink RX0 55 "StepGraph" "sentCount" "I") (by decide +kernel)
  have hin : ∀ w ∈ wsX00, w ∈ wsX0_sent := by decide +kernel
  refine lv_aload_n hx hb dX0_sent_0 rfl (lv_at hl 0 rfl) ?_
  refine c_get (u := u) hx hb hts hin hown hK hP 13 (by decide) rfl hf_55 (.int (c_se u)) rfl dX0_sent_1 ?_
  exact W.iret (v := c_se u) hx hb hr (fun t ht hW => ⟨⟨(c_se u), u, rfl, ⟨rfl, rfl⟩, by rw [ht]; exact hP, va_K.moved hW.alike hK, hD⟩, hS.F ht⟩) hS.2.2 dX0_sent_4

set_option maxHeartbeats 4000000 in
set_option maxRecDepth 100000 in
/-- delivered -/
theorem t_X0_delivered (l : Launch) (D : va_G) (ki : Nat → ClassId) (g : Nat → Nat) (u : CS) (sz : Nat)   : gMi l yX0_delivered wsX0_delivered ({ frames := 0, cells := 0, slots := 0, locals := 0 }) D (cw ki g) (cty ki) u sz [.ref (g 0)] (fun r u' => r = c_de u ∧ u' = u) := by
  refine g_ofi (cc := cX0_delivered) (maxL := 1) (ret := some .int) (own := RX0) (by decide) rfl rfl ?_
  intro p e s m below meth c A hx hb hr hlocks hml hts hown hK hD hA H locs hP hS
  have hl := lv_entry ([.ref (g 0)]) (n := 1) (Nat.le_of_ble_eq_true rfl)
  rw [lg_entry_eq]
  generalize (lg_sl ([.ref (g 0)]) ++ List.replicate (1 - (lg_sl ([.ref (g 0)])).length) Slot.unset).toArray = ls at hl ⊢
  have hl : lv_has ls 1 [(0, .ref (g 0))] := hl
  have hf_58 := hts (.fieldLink RX0 58 "StepGraph" "deliveredCount" "I") (by decide +kernel)
  have hin : ∀ w ∈ wsX00, w ∈ wsX0_delivered := by decide +kernel
  refine lv_aload_n hx hb dX0_delivered_0 rfl (lv_at hl 0 rfl) ?_
  refine c_get (u := u) hx hb hts hin hown hK hP 14 (by decide) rfl hf_58 (.int (c_de u)) rfl dX0_delivered_1 ?_
  exact W.iret (v := c_de u) hx hb hr (fun t ht hW => ⟨⟨(c_de u), u, rfl, ⟨rfl, rfl⟩, by rw [ht]; exact hP, va_K.moved hW.alike hK, hD⟩, hS.F ht⟩) hS.2.2 dX0_delivered_4

set_option maxHeartbeats 4000000 in
set_option maxRecDepth 100000 in
/-- crossed -/
theorem t_X0_crossed (l : Launch) (D : va_G) (ki : Nat → ClassId) (g : Nat → Nat) (u : CS) (sz : Nat)   : gMi l yX0_crossed wsX0_crossed ({ frames := 0, cells := 0, slots := 0, locals := 0 }) D (cw ki g) (cty ki) u sz [.ref (g 0)] (fun r u' => r = c_cr u ∧ u' = u) := by
  refine g_ofi (cc := cX0_crossed) (maxL := 1) (ret := some .int) (own := RX0) (by decide) rfl rfl ?_
  intro p e s m below meth c A hx hb hr hlocks hml hts hown hK hD hA H locs hP hS
  have hl := lv_entry ([.ref (g 0)]) (n := 1) (Nat.le_of_ble_eq_true rfl)
  rw [lg_entry_eq]
  generalize (lg_sl ([.ref (g 0)]) ++ List.replicate (1 - (lg_sl ([.ref (g 0)])).length) Slot.unset).toArray = ls at hl ⊢
  have hl : lv_has ls 1 [(0, .ref (g 0))] := hl
  have hf_61 := hts (.fieldLink RX0 61 "StepGraph" "crossedCount" "I") (by decide +kernel)
  have hin : ∀ w ∈ wsX00, w ∈ wsX0_crossed := by decide +kernel
  refine lv_aload_n hx hb dX0_crossed_0 rfl (lv_at hl 0 rfl) ?_
  refine c_get (u := u) hx hb hts hin hown hK hP 15 (by decide) rfl hf_61 (.int (c_cr u)) rfl dX0_crossed_1 ?_
  exact W.iret (v := c_cr u) hx hb hr (fun t ht hW => ⟨⟨(c_cr u), u, rfl, ⟨rfl, rfl⟩, by rw [ht]; exact hP, va_K.moved hW.alike hK, hD⟩, hS.F ht⟩) hS.2.2 dX0_crossed_4
