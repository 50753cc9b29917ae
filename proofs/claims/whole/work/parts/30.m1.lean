set_option maxHeartbeats 4000000 in
set_option maxRecDepth 100000 in
/-- thrown -/
theorem t_X1_thrown (l : Launch) (D : va_G) (ki : Nat → ClassId) (g : Nat → Nat) (u : MS) (sz : Nat)   : gMi l yX1_thrown wsX1_thrown ({ frames := 0, cells := 0, slots := 0, locals := 0 }) D (mw ki g) (mty ki) u sz [.ref (g 0)] (fun r u' => r = m_th u ∧ u' = u) := by
  refine g_ofi (cc := cX1_thrown) (maxL := 1) (ret := some .int) (own := RX1) (by decide) rfl rfl ?_
  intro p e s m below meth c A hx hb hr hlocks hml hts hown hK hD hA H locs hP hS
  have hl := lv_entry ([.ref (g 0)]) (n := 1) (Nat.le_of_ble_eq_true rfl)
  rw [lg_entry_eq]
  generalize (lg_sl ([.ref (g 0)]) ++ List.replicate (1 - (lg_sl ([.ref (g 0)])).length) Slot.unset).toArray = ls at hl ⊢
  have hl : lv_has ls 1 [(0, .ref (g 0))] := hl
  have hf_49 := hts (.fieldLink RX1 49 "StepGraphModel" "thrown" "I") (by decide +kernel)
  have hin : ∀ w ∈ wsX10, w ∈ wsX1_thrown := by decide +kernel
  refine lv_aload_n hx hb dX1_thrown_0 rfl (lv_at hl 0 rfl) ?_
  refine m_get (u := u) hx hb hts hin hown hK hP 12 (by decide) rfl hf_49 (.int (m_th u)) rfl dX1_thrown_1 ?_
  exact W.iret (v := m_th u) hx hb hr (fun t ht hW => ⟨⟨(m_th u), u, rfl, ⟨rfl, rfl⟩, by rw [ht]; exact hP, va_K.moved hW.alike hK, hD⟩, hS.F ht⟩) hS.2.2 dX1_thrown_4

set_option maxHeartbeats 4000000 in
set_option maxRecDepth 100000 in
/-- steps -/
theorem t_X1_steps (l : Launch) (D : va_G) (ki : Nat → ClassId) (g : Nat → Nat) (u : MS) (sz : Nat)   : gMi l yX1_steps wsX1_steps ({ frames := 0, cells := 0, slots := 0, locals := 0 }) D (mw ki g) (mty ki) u sz [.ref (g 0)] (fun r u' => r = m_st u ∧ u' = u) := by
  refine g_ofi (cc := cX1_steps) (maxL := 1) (ret := some .int) (own := RX1) (by decide) rfl rfl ?_
  intro p e s m below meth c A hx hb hr hlocks hml hts hown hK hD hA H locs hP hS
  have hl := lv_entry ([.ref (g 0)]) (n := 1) (Nat.le_of_ble_eq_true rfl)
  rw [lg_entry_eq]
  generalize (lg_sl ([.ref (g 0)]) ++ List.replicate (1 - (lg_sl ([.ref (g 0)])).length) Slot.unset).toArray = ls at hl ⊢
  have hl : lv_has ls 1 [(0, .ref (g 0))] := hl
  have hf_56 := hts (.fieldLink RX1 56 "StepGraphModel" "steps" "I") (by decide +kernel)
  have hin : ∀ w ∈ wsX10, w ∈ wsX1_steps := by decide +kernel
  refine lv_aload_n hx hb dX1_steps_0 rfl (lv_at hl 0 rfl) ?_
  refine m_get (u := u) hx hb hts hin hown hK hP 8 (by decide) rfl hf_56 (.int (m_st u)) rfl dX1_steps_1 ?_
  exact W.iret (v := m_st u) hx hb hr (fun t ht hW => ⟨⟨(m_st u), u, rfl, ⟨rfl, rfl⟩, by rw [ht]; exact hP, va_K.moved hW.alike hK, hD⟩, hS.F ht⟩) hS.2.2 dX1_steps_4

set_option maxHeartbeats 4000000 in
set_option maxRecDepth 100000 in
/-- sent -/
theorem t_X1_sent (l : Launch) (D : va_G) (ki : Nat → ClassId) (g : Nat → Nat) (u : MS) (sz : Nat)   : gMi l yX1_sent wsX1_sent ({ frames := 0, cells := 0, slots := 0, locals := 0 }) D (mw ki g) (mty ki) u sz [.ref (g 0)] (fun r u' => r = m_se u ∧ u' = u) := by
  refine g_ofi (cc := cX1_sent) (maxL := 1) (ret := some .int) (own := RX1) (by decide) rfl rfl ?_
  intro p e s m below meth c A hx hb hr hlocks hml hts hown hK hD hA H locs hP hS
  have hl := lv_entry ([.ref (g 0)]) (n := 1) (Nat.le_of_ble_eq_true rfl)
  rw [lg_entry_eq]
  generalize (lg_sl ([.ref (g 0)]) ++ List.replicate (1 - (lg_sl ([.ref (g 0)])).length) Slot.unset).toArray = ls at hl ⊢
  have hl : lv_has ls 1 [(0, .ref (g 0))] := hl
  have hf_59 := hts (.fieldLink RX1 59 "StepGraphModel" "sent" "I") (by decide +kernel)
  have hin : ∀ w ∈ wsX10, w ∈ wsX1_sent := by decide +kernel
  refine lv_aload_n hx hb dX1_sent_0 rfl (lv_at hl 0 rfl) ?_
  refine m_get (u := u) hx hb hts hin hown hK hP 9 (by decide) rfl hf_59 (.int (m_se u)) rfl dX1_sent_1 ?_
  exact W.iret (v := m_se u) hx hb hr (fun t ht hW => ⟨⟨(m_se u), u, rfl, ⟨rfl, rfl⟩, by rw [ht]; exact hP, va_K.moved hW.alike hK, hD⟩, hS.F ht⟩) hS.2.2 dX1_sent_4

set_option maxHeartbeats 4000000 in
set_option maxRecDepth 100000 in
/-- delivered -/
theorem t_X1_delivered (l : Launch) (D : va_G) (ki : Nat → ClassId) (g : Nat → Nat) (u : MS) (sz : Nat)   : gMi l yX1_delivered wsX1_delivered ({ frames := 0, cells := 0, slots := 0, locals := 0 }) D (mw ki g) (mty ki) u sz [.ref (g 0)] (fun r u' => r = m_de u ∧ u' = u) := by
  refine g_ofi (cc := cX1_delivered) (maxL := 1) (ret := some .int) (own := RX1) (by decide) rfl rfl ?_
  intro p e s m below meth c A hx hb hr hlocks hml hts hown hK hD hA H locs hP hS
  have hl := lv_entry ([.ref (g 0)]) (n := 1) (Nat.le_of_ble_eq_true rfl)
  rw [lg_entry_eq]
  generalize (lg_sl ([.ref (g 0)]) ++ List.replicate (1 - (lg_sl ([.ref (g 0)])).length) Slot.unset).toArray = ls at hl ⊢
  have hl : lv_has ls 1 [(0, .ref (g 0))] := hl
  have hf_62 := hts (.fieldLink RX1 62 "StepGraphModel" "delivered" "I") (by decide +kernel)
  have hin : ∀ w ∈ wsX10, w ∈ wsX1_delivered := by decide +kernel
  refine lv_aload_n hx hb dX1_delivered_0 rfl (lv_at hl 0 rfl) ?_
  refine m_get (u := u) hx hb hts hin hown hK hP 10 (by decide) rfl hf_62 (.int (m_de u)) rfl dX1_delivered_1 ?_
  exact W.iret (v := m_de u) hx hb hr (fun t ht hW => ⟨⟨(m_de u), u, rfl, ⟨rfl, rfl⟩, by rw [ht]; exact hP, va_K.moved hW.alike hK, hD⟩, hS.F ht⟩) hS.2.2 dX1_delivered_4

set_option maxHeartbeats 4000000 in
set_option maxRecDepth 100000 in
/-- crossed -/
theorem t_X1_crossed (l : Launch) (D : va_G) (ki : Nat → ClassId) (g : Nat → Nat) (u : MS) (sz : Nat)   : gMi l yX1_crossed wsX1_crossed ({ frames := 0, cells := 0, slots := 0, locals := 0 }) D (mw ki g) (mty ki) u sz [.ref (g 0)] (fun r u' => r = m_cr u ∧ u' = u) := by
  refine g_ofi (cc := cX1_crossed) (maxL := 1) (ret := some .int) (own := RX1) (by decide) rfl rfl ?_
  intro p e s m below meth c A hx hb hr hlocks hml hts hown hK hD hA H locs hP hS
  have hl := lv_entry ([.ref (g 0)]) (n := 1) (Nat.le_of_ble_eq_true rfl)
  rw [lg_entry_eq]
  generalize (lg_sl ([.ref (g 0)]) ++ List.replicate (1 - (lg_sl ([.ref (g 0)])).length) Slot.unset).toArray = ls at hl ⊢
  have hl : lv_has ls 1 [(0, .ref (g 0))] := hl
  have hf_65 := hts (.fieldLink RX1 65 "StepGraphModel" "crossed" "I") (by decide +kernel)
  have hin : ∀ w ∈ wsX10, w ∈ wsX1_crossed := by decide +kernel
  refine lv_aload_n hx hb dX1_crossed_0 rfl (lv_at hl 0 rfl) ?_
  refine m_get (u := u) hx hb hts hin hown hK hP 11 (by decide) rfl hf_65 (.int (m_cr u)) rfl dX1_crossed_1 ?_
  exact W.iret (v := m_cr u) hx hb hr (fun t ht hW => ⟨⟨(m_cr u), u, rfl, ⟨rfl, rfl⟩, by rw [ht]; exact hP, va_K.moved hW.alike hK, hD⟩, hS.F ht⟩) hS.2.2 dX1_crossed_4

set_option maxHeartbeats 4000000 in
set_option maxRecDepth 100000 in
/-- isVertex -/
theorem t_X1_isVertex (l : Launch) (D : va_G) (ki : Nat → ClassId) (g : Nat → Nat) (u : MS) (sz : Nat) (v : Int32)  : gMi l yX1_isVertex wsX1_isVertex ({ frames := 0, cells := 0, slots := 0, locals := 0 }) D (mw ki g) (mty ki) u sz [.ref (g 0), .int v] (fun r u' => r = b2 (C_isV (m_n u) v) ∧ u' = u) := by
  refine g_ofi (cc := cX1_isVertex) (maxL := 2) (ret := some .boolean) (own := RX1) (by decide) rfl rfl ?_
  intro p e s m below meth c A hx hb hr hlocks hml hts hown hK hD hA H locs hP hS
  have hl := lv_entry ([.ref (g 0), .int v]) (n := 2) (Nat.le_of_ble_eq_true rfl)
  rw [lg_entry_eq]
  generalize (lg_sl ([.ref (g 0), .int v]) ++ List.replicate (2 - (lg_sl ([.ref (g 0), .int v])).length) Slot.unset).toArray = ls at hl ⊢
  have hl : lv_has ls 2 [(0, .ref (g 0)), (1, .int v)] := hl
  have hf_20 := hts (.fieldLink RX1 20 "StepGraphModel" "n" "I") (by decide +kernel)
  have hin : ∀ w ∈ wsX10, w ∈ wsX1_isVertex := by decide +kernel
  refine lv_iload_n hx hb dX1_isVertex_0 rfl (lv_at hl 1 rfl) ?_
  refine lv_if_lt (tgt := 16) hx hb dX1_isVertex_1 (by decide) (fun c1 => ?_) (fun c1 => ?_)
  · refine lv_iconst (v := 0) hx hb dX1_isVertex_16 (by decide) ?_
    exact W.zret (ty := .boolean) (v := 0) hx hb hr rfl (fun t ht hW => ⟨⟨0, u, rfl, ⟨by simp only [C_isV, if_pos c1] <;> rfl, rfl⟩, by rw [ht]; exact hP, va_K.moved hW.alike hK, hD⟩, hS.F ht⟩) hS.2.2 dX1_isVertex_17
  · refine lv_iload_n hx hb dX1_isVertex_4 rfl (lv_at hl 1 rfl) ?_
    refine lv_aload_n hx hb dX1_isVertex_5 rfl (lv_at hl 0 rfl) ?_
    refine m_get (u := u) hx hb hts hin hown hK hP 3 (by decide) rfl hf_20 (.int (m_n u)) rfl dX1_isVertex_6 ?_
    refine lv_icmp_ge (tgt := 16) hx hb dX1_isVertex_9 (by decide) (fun c2 => ?_) (fun c2 => ?_)
    · refine lv_iconst (v := 0) hx hb dX1_isVertex_16 (by decide) ?_
      exact W.zret (ty := .boolean) (v := 0) hx hb hr rfl (fun t ht hW => ⟨⟨0, u, rfl, ⟨by simp only [C_isV, if_neg c1, if_pos c2] <;> rfl, rfl⟩, by rw [ht]; exact hP, va_K.moved hW.alike hK, hD⟩, hS.F ht⟩) hS.2.2 dX1_isVertex_17
    · refine lv_iconst (v := 1) hx hb dX1_isVertex_12 (by decide) ?_
      refine lv_goto (tgt := 17) hx hb dX1_isVertex_13 (by decide) ?_
      exact W.zret (ty := .boolean) (v := 1) hx hb hr rfl (fun t ht hW => ⟨⟨1, u, rfl, ⟨by simp only [C_isV, if_neg c1, if_neg c2] <;> rfl, rfl⟩, by rw [ht]; exact hP, va_K.moved hW.alike hK, hD⟩, hS.F ht⟩) hS.2.2 dX1_isVertex_17

set_option maxHeartbeats 4000000 in
set_option maxRecDepth 100000 in
/-- isBetter -/
theorem t_X1_isBetter (l : Launch) (D : va_G) (ki : Nat → ClassId) (g : Nat → Nat) (u : MS) (sz : Nat) (x y : UInt64)  : gMi l yX1_isBetter wsX1_isBetter ({ frames := 0, cells := 0, slots := 0, locals := 0 }) D (mw ki g) (mty ki) u sz [.ref (g 0), .double x, .double y] (fun r u' => r = b2 (M_bet (m_pr u) x y) ∧ u' = u) := by
  refine g_ofi (cc := cX1_isBetter) (maxL := 5) (ret := some .boolean) (own := RX1) (by decide) rfl rfl ?_
  intro p e s m below meth c A hx hb hr hlocks hml hts hown hK hD hA H locs hP hS
  have hl := lv_entry ([.ref (g 0), .double x, .double y]) (n := 5) (Nat.le_of_ble_eq_true rfl)
  rw [lg_entry_eq]
  generalize (lg_sl ([.ref (g 0), .double x, .double y]) ++ List.replicate (5 - (lg_sl ([.ref (g 0), .double x, .double y])).length) Slot.unset).toArray = ls at hl ⊢
  have hl : lv_has ls 5 [(0, .ref (g 0)), (1, .double x), (3, .double y)] := hl
  have hf_80 := hts (.fieldLink RX1 80 "StepGraphModel" "program" "I") (by decide +kernel)
  have hin : ∀ w ∈ wsX10, w ∈ wsX1_isBetter := by decide +kernel
  refine lv_aload_n hx hb dX1_isBetter_0 rfl (lv_at hl 0 rfl) ?_
  refine m_get (u := u) hx hb hts hin hown hK hP 7 (by decide) rfl hf_80 (.int (m_pr u)) rfl dX1_isBetter_1 ?_
  refine lv_iconst (v := 3) hx hb dX1_isBetter_4 (by decide) ?_
  refine lv_icmp_ne (tgt := 22) hx hb dX1_isBetter_5 (by decide) (fun c1 => ?_) (fun c1 => ?_)
  · refine lv_dload_n hx hb dX1_isBetter_22 rfl (lv_at hl 1 rfl) ?_
    refine lv_dload_n hx hb dX1_isBetter_23 rfl (lv_at hl 2 rfl) ?_
    refine k_dcmpg hx hb dX1_isBetter_24 ?_
    refine lv_if_ge (tgt := 32) hx hb dX1_isBetter_25 (by decide) (fun c2 => ?_) (fun c2 => ?_)
    · refine lv_iconst (v := 0) hx hb dX1_isBetter_32 (by decide) ?_
      exact W.zret (ty := .boolean) (v := 0) hx hb hr rfl (fun t ht hW => ⟨⟨0, u, rfl, ⟨by simp only [M_bet, if_neg c1, if_pos c2] <;> rfl, rfl⟩, by rw [ht]; exact hP, va_K.moved hW.alike hK, hD⟩, hS.F ht⟩) hS.2.2 dX1_isBetter_33
    · refine lv_iconst (v := 1) hx hb dX1_isBetter_28 (by decide) ?_
      refine lv_goto (tgt := 33) hx hb dX1_isBetter_29 (by decide) ?_
      exact W.zret (ty := .boolean) (v := 1) hx hb hr rfl (fun t ht hW => ⟨⟨1, u, rfl, ⟨by simp only [M_bet, if_neg c1, if_neg c2] <;> rfl, rfl⟩, by rw [ht]; exact hP, va_K.moved hW.alike hK, hD⟩, hS.F ht⟩) hS.2.2 dX1_isBetter_33
  · refine lv_dload_n hx hb dX1_isBetter_8 rfl (lv_at hl 1 rfl) ?_
    refine lv_dload_n hx hb dX1_isBetter_9 rfl (lv_at hl 2 rfl) ?_
    refine k_dcmpl hx hb dX1_isBetter_10 ?_
    refine lv_if_le (tgt := 18) hx hb dX1_isBetter_11 (by decide) (fun c3 => ?_) (fun c3 => ?_)
    · refine lv_iconst (v := 0) hx hb dX1_isBetter_18 (by decide) ?_
      refine lv_goto (tgt := 33) hx hb dX1_isBetter_19 (by decide) ?_
      exact W.zret (ty := .boolean) (v := 0) hx hb hr rfl (fun t ht hW => ⟨⟨0, u, rfl, ⟨by simp only [M_bet, if_pos c1, if_pos c3] <;> rfl, rfl⟩, by rw [ht]; exact hP, va_K.moved hW.alike hK, hD⟩, hS.F ht⟩) hS.2.2 dX1_isBetter_33
    · refine lv_iconst (v := 1) hx hb dX1_isBetter_14 (by decide) ?_
      refine lv_goto (tgt := 33) hx hb dX1_isBetter_15 (by decide) ?_
      exact W.zret (ty := .boolean) (v := 1) hx hb hr rfl (fun t ht hW => ⟨⟨1, u, rfl, ⟨by simp only [M_bet, if_pos c1, if_neg c3] <;> rfl, rfl⟩, by rw [ht]; exact hP, va_K.moved hW.alike hK, hD⟩, hS.F ht⟩) hS.2.2 dX1_isBetter_33

set_option maxHeartbeats 4000000 in
set_option maxRecDepth 100000 in
/-- message -/
theorem t_X1_message (l : Launch) (D : va_G) (ki : Nat → ClassId) (g : Nat → Nat) (u : MS) (sz : Nat) (x w : UInt64) (h0 : vf_n64 (FP.dadd x w)) (h2 : vf_n64 (FP.dadd x D1)) : gMd l yX1_message wsX1_message ({ frames := 0, cells := 0, slots := 0, locals := 0 }) D (mw ki g) (mty ki) u sz [.ref (g 0), .double x, .double w] (fun r u' => r = M_msg (m_pr u) x w ∧ u' = u) := by
  refine g_ofd (cc := cX1_message) (maxL := 5) (ret := some .double) (own := RX1) (by decide) rfl rfl ?_
  intro p e s m below meth c A hx hb hr hlocks hml hts hown hK hD hA H locs hP hS
  have hl := lv_entry ([.ref (g 0), .double x, .double w]) (n := 5) (Nat.le_of_ble_eq_true rfl)
  rw [lg_entry_eq]
  generalize (lg_sl ([.ref (g 0), .double x, .double w]) ++ List.replicate (5 - (lg_sl ([.ref (g 0), .double x, .double w])).length) Slot.unset).toArray = ls at hl ⊢
  have hl : lv_has ls 5 [(0, .ref (g 0)), (1, .double x), (3, .double w)] := hl
  have hf_80 := hts (.fieldLink RX1 80 "StepGraphModel" "program" "I") (by decide +kernel)
  have hin : ∀ w ∈ wsX10, w ∈ wsX1_message := by decide +kernel
  refine lv_aload_n hx hb dX1_message_0 rfl (lv_at hl 0 rfl) ?_
  refine m_get (u := u) hx hb hts hin hown hK hP 7 (by decide) rfl hf_80 (.int (m_pr u)) rfl dX1_message_1 ?_
  refine lv_if_ne (tgt := 11) hx hb dX1_message_4 (by decide) (fun c1 => ?_) (fun c1 => ?_)
  · refine lv_aload_n hx hb dX1_message_11 rfl (lv_at hl 0 rfl) ?_
    refine m_get (u := u) hx hb hts hin hown hK hP 7 (by decide) rfl hf_80 (.int (m_pr u)) rfl dX1_message_12 ?_
    refine lv_iconst (v := 1) hx hb dX1_message_15 (by decide) ?_
    refine lv_icmp_ne (tgt := 21) hx hb dX1_message_16 (by decide) (fun c2 => ?_) (fun c2 => ?_)
    · refine lv_aload_n hx hb dX1_message_21 rfl (lv_at hl 0 rfl) ?_
      refine m_get (u := u) hx hb hts hin hown hK hP 7 (by decide) rfl hf_80 (.int (m_pr u)) rfl dX1_message_22 ?_
      refine lv_iconst (v := 2) hx hb dX1_message_25 (by decide) ?_
      refine lv_icmp_ne (tgt := 33) hx hb dX1_message_26 (by decide) (fun c3 => ?_) (fun c3 => ?_)
      · refine lv_dload_n hx hb dX1_message_33 rfl (lv_at hl 1 rfl) ?_
        refine lv_dload_n hx hb dX1_message_34 rfl (lv_at hl 2 rfl) ?_
        refine k_dcmpg hx hb dX1_message_35 ?_
        refine lv_if_ge (tgt := 43) hx hb dX1_message_36 (by decide) (fun c4 => ?_) (fun c4 => ?_)
        · refine lv_dload_n hx hb dX1_message_43 rfl (lv_at hl 2 rfl) ?_
          exact W.dret (v := w) hx hb hr (fun t ht hW => ⟨⟨w, u, rfl, ⟨by simp only [M_msg, if_neg c1, if_neg c2, if_neg c3, if_pos c4] <;> rfl, rfl⟩, by rw [ht]; exact hP, va_K.moved hW.alike hK, hD⟩, hS.F ht⟩) hS.2.2 dX1_message_44
        · refine lv_dload_n hx hb dX1_message_39 rfl (lv_at hl 1 rfl) ?_
          refine lv_goto (tgt := 44) hx hb dX1_message_40 (by decide) ?_
          exact W.dret (v := x) hx hb hr (fun t ht hW => ⟨⟨x, u, rfl, ⟨by simp only [M_msg, if_neg c1, if_neg c2, if_neg c3, if_neg c4] <;> rfl, rfl⟩, by rw [ht]; exact hP, va_K.moved hW.alike hK, hD⟩, hS.F ht⟩) hS.2.2 dX1_message_44
      · refine lv_dload_n hx hb dX1_message_29 rfl (lv_at hl 1 rfl) ?_
        refine lv_dconst1 hx hb dX1_message_30 ?_
        refine lv_dadd hx hb dX1_message_31 h2 ?_
        exact W.dret (v := FP.dadd x D1) hx hb hr (fun t ht hW => ⟨⟨(FP.dadd x D1), u, rfl, ⟨by simp only [M_msg, if_neg c1, if_neg c2, if_pos c3] <;> rfl, rfl⟩, by rw [ht]; exact hP, va_K.moved hW.alike hK, hD⟩, hS.F ht⟩) hS.2.2 dX1_message_32
    · refine lv_dload_n hx hb dX1_message_19 rfl (lv_at hl 1 rfl) ?_
      exact W.dret (v := x) hx hb hr (fun t ht hW => ⟨⟨x, u, rfl, ⟨by simp only [M_msg, if_neg c1, if_pos c2] <;> rfl, rfl⟩, by rw [ht]; exact hP, va_K.moved hW.alike hK, hD⟩, hS.F ht⟩) hS.2.2 dX1_message_20
  · refine lv_dload_n hx hb dX1_message_7 rfl (lv_at hl 1 rfl) ?_
    refine lv_dload_n hx hb dX1_message_8 rfl (lv_at hl 2 rfl) ?_
    refine lv_dadd hx hb dX1_message_9 h0 ?_
    exact W.dret (v := FP.dadd x w) hx hb hr (fun t ht hW => ⟨⟨(FP.dadd x w), u, rfl, ⟨by simp only [M_msg, if_pos c1] <;> rfl, rfl⟩, by rw [ht]; exact hP, va_K.moved hW.alike hK, hD⟩, hS.F ht⟩) hS.2.2 dX1_message_10

set_option maxHeartbeats 4000000 in
set_option maxRecDepth 100000 in
/-- forget -/
theorem t_X1_forget (l : Launch) (D : va_G) (ki : Nat → ClassId) (g : Nat → Nat) (u : MS) (sz : Nat)   : gMv l yX1_forget wsX1_forget ({ frames := 0, cells := 0, slots := 0, locals := 0 }) D (mw ki g) (mty ki) u sz [.ref (g 0)] (fun u' => u' = M_forget u) := by
  refine g_ofv (cc := cX1_forget) (maxL := 2) (ret := none) (own := RX1) (by decide) rfl rfl ?_
  intro p e s m below meth c A hx hb hr hlocks hml hts hown hK hD hA H locs hP hS
  have hl := lv_entry ([.ref (g 0)]) (n := 2) (Nat.le_of_ble_eq_true rfl)
  rw [lg_entry_eq]
  generalize (lg_sl ([.ref (g 0)]) ++ List.replicate (2 - (lg_sl ([.ref (g 0)])).length) Slot.unset).toArray = ls at hl ⊢
  have hl : lv_has ls 2 [(0, .ref (g 0))] := hl
  have hf_30 := hts (.fieldLink RX1 30 "StepGraphModel" "known" "[Z") (by decide +kernel)
  have hf_37 := hts (.fieldLink RX1 37 "StepGraphModel" "comes" "[Z") (by decide +kernel)
  have hf_52 := hts (.fieldLink RX1 52 "StepGraphModel" "begun" "Z") (by decide +kernel)
  have hf_56 := hts (.fieldLink RX1 56 "StepGraphModel" "steps" "I") (by decide +kernel)
  have hf_59 := hts (.fieldLink RX1 59 "StepGraphModel" "sent" "I") (by decide +kernel)
  have hf_62 := hts (.fieldLink RX1 62 "StepGraphModel" "delivered" "I") (by decide +kernel)
  have hf_65 := hts (.fieldLink RX1 65 "StepGraphModel" "crossed" "I") (by decide +kernel)
  have hin : ∀ w ∈ wsX10, w ∈ wsX1_forget := by decide +kernel
  refine lv_aload_n hx hb dX1_forget_0 rfl (lv_at hl 0 rfl) ?_
  refine lv_iconst (v := 0) hx hb dX1_forget_1 (by decide) ?_
  refine m_put (u := u) hx hb hts hin hown hK hP hD hS 6 (by decide) rfl rfl hf_52 .boolean (by decide +kernel) rfl rfl (ms_bg u 0) rfl dX1_forget_2 (fun H locs hP hD hS => ?_)
  refine lv_aload_n hx hb dX1_forget_5 rfl (lv_at hl 0 rfl) ?_
  refine lv_iconst (v := 0) hx hb dX1_forget_6 (by decide) ?_
  refine m_put (u := ms_bg u 0) hx hb hts hin hown hK hP hD hS 8 (by decide) rfl rfl hf_56 .int (by decide +kernel) rfl rfl (ms_st (ms_bg u 0) 0) rfl dX1_forget_7 (fun H locs hP hD hS => ?_)
  refine lv_aload_n hx hb dX1_forget_10 rfl (lv_at hl 0 rfl) ?_
  refine lv_iconst (v := 0) hx hb dX1_forget_11 (by decide) ?_
  refine m_put (u := ms_st (ms_bg u 0) 0) hx hb hts hin hown hK hP hD hS 9 (by decide) rfl rfl hf_59 .int (by decide +kernel) rfl rfl (ms_se (ms_st (ms_bg u 0) 0) 0) rfl dX1_forget_12 (fun H locs hP hD hS => ?_)
  refine lv_aload_n hx hb dX1_forget_15 rfl (lv_at hl 0 rfl) ?_
  refine lv_iconst (v := 0) hx hb dX1_forget_16 (by decide) ?_
  refine m_put (u := ms_se (ms_st (ms_bg u 0) 0) 0) hx hb hts hin hown hK hP hD hS 10 (by decide) rfl rfl hf_62 .int (by decide +kernel) rfl rfl (ms_de (ms_se (ms_st (ms_bg u 0) 0) 0) 0) rfl dX1_forget_17 (fun H locs hP hD hS => ?_)
  refine lv_aload_n hx hb dX1_forget_20 rfl (lv_at hl 0 rfl) ?_
  refine lv_iconst (v := 0) hx hb dX1_forget_21 (by decide) ?_
  refine m_put (u := ms_de (ms_se (ms_st (ms_bg u 0) 0) 0) 0) hx hb hts hin hown hK hP hD hS 11 (by decide) rfl rfl hf_65 .int (by decide +kernel) rfl rfl (ms_cr (ms_de (ms_se (ms_st (ms_bg u 0) 0) 0) 0) 0) rfl dX1_forget_22 (fun H locs hP hD hS => ?_)
  refine lv_iconst (v := 0) hx hb dX1_forget_25 (by decide) ?_
  refine lv_istore_n (lv' := [(1, .int 0), (0, .ref (g 0))]) hx hb dX1_forget_26 rfl hl (by decide) rfl (fun ls hl => ?_)
  have loop : ∀ (r i : Nat), i + r = 48 → ∀ (H : Heap) (locs : List Loc) (ls : Array Slot), va_P D vwCl (mw ki g (ms_cs (ms_cr (ms_de (ms_se (ms_st (ms_bg u 0) 0) 0) 0) 0) (zer (i) (m_cs u)))) H → va_D A (mw ki g (ms_cs (ms_cr (ms_de (ms_se (ms_st (ms_bg u 0) 0) 0) 0) 0) (zer (i) (m_cs u)))) → va_S A s.heap H locs → lv_has ls 2 [(1, .int (nI (i))), (0, .ref (g 0))] → W p l e (headSpec wsX1_forget { frames := 0, cells := 0, slots := 0, locals := 0 }).room s m ([.ref (g 0)] : List Value).toArray below meth c H locs 0 0 (MQ below (va_Qv (fun u' => u' = M_forget u) (gQ D (mw ki g) (mty ki) A) A) ([.ref (g 0)] : List Value).toArray s 0 0 A) (F0 m 27 ls []) := by
    intro r
    induction r with
    | zero =>
      intro i hii H locs ls hP hD hS hl 
      have hii : 48 = i := by omega
      subst hii
      refine lv_iload_n hx hb dX1_forget_27 rfl (lv_at hl 0 rfl) ?_
      refine lv_bipush (v := 48) hx hb dX1_forget_28 (by decide) ?_
      refine lv_icmp_ge (tgt := 46) hx hb dX1_forget_30 (by decide) (fun c1 => ?_) (fun c1 => absurd (by decide) c1)
      refine lv_iconst (v := 0) hx hb dX1_forget_46 (by decide) ?_
      refine lv_istore_n (lv' := [(1, .int 0), (0, .ref (g 0))]) hx hb dX1_forget_47 rfl hl (by decide) rfl (fun ls hl => ?_)
      have loop2 : ∀ (r i : Nat), i + r = 12 → ∀ (H : Heap) (locs : List Loc) (ls : Array Slot), va_P D vwCl (mw ki g (ms_cs (ms_kn (ms_cr (ms_de (ms_se (ms_st (ms_bg u 0) 0) 0) 0) 0) (zer (i) (m_kn u))) (zer 48 (m_cs u)))) H → va_D A (mw ki g (ms_cs (ms_kn (ms_cr (ms_de (ms_se (ms_st (ms_bg u 0) 0) 0) 0) 0) (zer (i) (m_kn u))) (zer 48 (m_cs u)))) → va_S A s.heap H locs → lv_has ls 2 [(1, .int (nI (i))), (0, .ref (g 0))] → W p l e (headSpec wsX1_forget { frames := 0, cells := 0, slots := 0, locals := 0 }).room s m ([.ref (g 0)] : List Value).toArray below meth c H locs 0 0 (MQ below (va_Qv (fun u' => u' = M_forget u) (gQ D (mw ki g) (mty ki) A) A) ([.ref (g 0)] : List Value).toArray s 0 0 A) (F0 m 48 ls []) := by
        intro r
        induction r with
        | zero =>
          intro i hii H locs ls hP hD hS hl 
          have hii : 12 = i := by omega
          subst hii
          refine lv_iload_n hx hb dX1_forget_48 rfl (lv_at hl 0 rfl) ?_
          refine lv_bipush (v := 12) hx hb dX1_forget_49 (by decide) ?_
          refine lv_icmp_ge (tgt := 67) hx hb dX1_forget_51 (by decide) (fun c2 => ?_) (fun c2 => absurd (by decide) c2)
          exact W.vret hx hb hr (fun t ht hW => ⟨⟨(ms_cs (ms_kn (ms_cr (ms_de (ms_se (ms_st (ms_bg u 0) 0) 0) 0) 0) (zer (12) (m_kn u))) (zer 48 (m_cs u))), rfl, rfl, by rw [ht]; exact hP, va_K.moved hW.alike hK, hD⟩, hS.F ht⟩) hS.2.2 dX1_forget_67
        | succ r ih =>
          intro i hii H locs ls hP hD hS hl 
          refine lv_iload_n hx hb dX1_forget_48 rfl (lv_at hl 0 rfl) ?_
          refine lv_bipush (v := 12) hx hb dX1_forget_49 (by decide) ?_
          refine lv_icmp_ge (tgt := 67) hx hb dX1_forget_51 (by decide) (fun c3 => absurd c3 (nI_ge (b := 12) (by omega) (by omega))) (fun c3 => ?_)
          refine lv_aload_n hx hb dX1_forget_54 rfl (lv_at hl 1 rfl) ?_
          refine m_get (u := ms_cs (ms_kn (ms_cr (ms_de (ms_se (ms_st (ms_bg u 0) 0) 0) 0) 0) (zer (i) (m_kn u))) (zer 48 (m_cs u))) hx hb hts hin hown hK hP 14 (by decide) rfl hf_30 (.ref (g 5)) rfl dX1_forget_55 ?_
          refine lv_iload_n hx hb dX1_forget_58 rfl (lv_at hl 0 rfl) ?_
          refine lv_iconst (v := 0) hx hb dX1_forget_59 (by decide) ?_
          refine k_zast hx hb hK hP hD hS 5 2 (f := zer (i) (m_kn u)) (n := 12) rfl rfl (j := i) (by omega) (by decide) nar_0 dX1_forget_60 (fun H locs hP hD hS => ?_)
          have hP : va_P D vwCl (mw ki g (ms_cs (ms_kn (ms_cr (ms_de (ms_se (ms_st (ms_bg u 0) 0) 0) 0) 0) (upd (zer (i) (m_kn u)) i 0)) (zer 48 (m_cs u)))) H := hP
          have hD : va_D A (mw ki g (ms_cs (ms_kn (ms_cr (ms_de (ms_se (ms_st (ms_bg u 0) 0) 0) 0) 0) (upd (zer (i) (m_kn u)) i 0)) (zer 48 (m_cs u)))) := hD
          refine lv_iinc (v := nI (i + 1)) (lv' := [(1, .int (nI (i + 1))), (0, .ref (g 0))]) hx hb dX1_forget_61 hl (k := 0) rfl (nI_1 i) (by decide) rfl (fun ls hl => ?_)
          refine lv_goto (tgt := 48) hx hb dX1_forget_64 (by decide) ?_
          exact ih (i + 1) (by omega) _ _ _ hP hD hS (lv_sub hl [0, 1] rfl) 
      exact loop2 (12) 0 (by omega) H locs ls hP hD hS (lv_sub hl [0, 1] rfl) 
    | succ r ih =>
      intro i hii H locs ls hP hD hS hl 
      refine lv_iload_n hx hb dX1_forget_27 rfl (lv_at hl 0 rfl) ?_
      refine lv_bipush (v := 48) hx hb dX1_forget_28 (by decide) ?_
      refine lv_icmp_ge (tgt := 46) hx hb dX1_forget_30 (by decide) (fun c4 => absurd c4 (nI_ge (b := 48) (by omega) (by omega))) (fun c4 => ?_)
      refine lv_aload_n hx hb dX1_forget_33 rfl (lv_at hl 1 rfl) ?_
      refine m_get (u := ms_cs (ms_cr (ms_de (ms_se (ms_st (ms_bg u 0) 0) 0) 0) 0) (zer (i) (m_cs u))) hx hb hts hin hown hK hP 16 (by decide) rfl hf_37 (.ref (g 7)) rfl dX1_forget_34 ?_
      refine lv_iload_n hx hb dX1_forget_37 rfl (lv_at hl 0 rfl) ?_
      refine lv_iconst (v := 0) hx hb dX1_forget_38 (by decide) ?_
      refine k_zast hx hb hK hP hD hS 7 2 (f := zer (i) (m_cs u)) (n := 48) rfl rfl (j := i) (by omega) (by decide) nar_0 dX1_forget_39 (fun H locs hP hD hS => ?_)
      have hP : va_P D vwCl (mw ki g (ms_cs (ms_cr (ms_de (ms_se (ms_st (ms_bg u 0) 0) 0) 0) 0) (upd (zer (i) (m_cs u)) i 0))) H := hP
      have hD : va_D A (mw ki g (ms_cs (ms_cr (ms_de (ms_se (ms_st (ms_bg u 0) 0) 0) 0) 0) (upd (zer (i) (m_cs u)) i 0))) := hD
      refine lv_iinc (v := nI (i + 1)) (lv' := [(1, .int (nI (i + 1))), (0, .ref (g 0))]) hx hb dX1_forget_40 hl (k := 0) rfl (nI_1 i) (by decide) rfl (fun ls hl => ?_)
      refine lv_goto (tgt := 27) hx hb dX1_forget_43 (by decide) ?_
      exact ih (i + 1) (by omega) _ _ _ hP hD hS (lv_sub hl [0, 1] rfl) 
  exact loop (48) 0 (by omega) H locs ls hP hD hS (lv_sub hl [0, 1] rfl) 

set_option maxHeartbeats 4000000 in
set_option maxRecDepth 100000 in
/-- size -/
theorem t_X1_size (l : Launch) (D : va_G) (ki : Nat → ClassId) (g : Nat → Nat) (u : MS) (sz : Nat) (v : Int32)  : gMi l yX1_size wsX1_size ({ frames := 1, cells := 0, slots := 0, locals := 21 }) D (mw ki g) (mty ki) u sz [.ref (g 0), .int v] (fun r u' => r = b2 (rng 12 v) ∧ u' = if rng 12 v = true then M_size u v else u) := by
  refine g_ofi (cc := cX1_size) (maxL := 2) (ret := some .boolean) (own := RX1) (by decide) rfl rfl ?_
  intro p e s m below meth c A hx hb hr hlocks hml hts hown hK hD hA H locs hP hS
  have hl := lv_entry ([.ref (g 0), .int v]) (n := 2) (Nat.le_of_ble_eq_true rfl)
  rw [lg_entry_eq]
  generalize (lg_sl ([.ref (g 0), .int v]) ++ List.replicate (2 - (lg_sl ([.ref (g 0), .int v])).length) Slot.unset).toArray = ls at hl ⊢
  have hl : lv_has ls 2 [(0, .ref (g 0)), (1, .int v)] := hl
  have hf_20 := hts (.fieldLink RX1 20 "StepGraphModel" "n" "I") (by decide +kernel)
  have hf_68 := hts (.fieldLink RX1 68 "StepGraphModel" "edges" "I") (by decide +kernel)
  have hin : ∀ w ∈ wsX10, w ∈ wsX1_size := by decide +kernel
  refine lv_iload_n hx hb dX1_size_0 rfl (lv_at hl 1 rfl) ?_
  refine lv_iconst (v := 1) hx hb dX1_size_1 (by decide) ?_
  refine lv_icmp_lt (tgt := 11) hx hb dX1_size_2 (by decide) (fun c1 => ?_) (fun c1 => ?_)
  · refine lv_iconst (v := 0) hx hb dX1_size_11 (by decide) ?_
    exact W.zret (ty := .boolean) (v := 0) hx hb hr rfl (fun t ht hW => ⟨⟨0, u, rfl, ⟨by simp only [rng, if_pos c1, Bool.false_eq_true, ↓reduceIte] <;> rfl, by simp only [rng, if_pos c1, Bool.false_eq_true, ↓reduceIte] <;> rfl⟩, by rw [ht]; exact hP, va_K.moved hW.alike hK, hD⟩, hS.F ht⟩) hS.2.2 dX1_size_12
  · refine lv_iload_n hx hb dX1_size_5 rfl (lv_at hl 1 rfl) ?_
    refine lv_bipush (v := 12) hx hb dX1_size_6 (by decide) ?_
    refine lv_icmp_le (tgt := 13) hx hb dX1_size_8 (by decide) (fun c2 => ?_) (fun c2 => ?_)
    · refine lv_aload_n hx hb dX1_size_13 rfl (lv_at hl 0 rfl) ?_
      refine lv_iload_n hx hb dX1_size_14 rfl (lv_at hl 1 rfl) ?_
      refine m_put (u := u) hx hb hts hin hown hK hP hD hS 3 (by decide) rfl rfl hf_20 .int (by decide +kernel) rfl rfl (ms_n u v) rfl dX1_size_15 (fun H locs hP hD hS => ?_)
      refine lv_aload_n hx hb dX1_size_18 rfl (lv_at hl 0 rfl) ?_
      refine lv_iconst (v := 0) hx hb dX1_size_19 (by decide) ?_
      refine m_put (u := ms_n u v) hx hb hts hin hown hK hP hD hS 4 (by decide) rfl rfl hf_68 .int (by decide +kernel) rfl rfl (ms_e (ms_n u v) 0) rfl dX1_size_20 (fun H locs hP hD hS => ?_)
      refine lv_aload_n hx hb dX1_size_23 rfl (lv_at hl 0 rfl) ?_
      refine g_callv (w := mw ki g) (u := ms_e (ms_n u v) 0) (As := []) (rest := []) ⟨hx, hb, hml, hown, hts⟩ (t_X1_forget l D ki g (ms_e (ms_n u v) 0) H.size  ) (cwV 0 hts gX1_size_X1_forget rfl rfl rfl (by decide +kernel) ⟨Nat.le_of_ble_eq_true rfl, Nat.le_of_ble_eq_true rfl⟩) hK hP hD hS hA rfl rfl (mw_0 ki g (ms_e (ms_n u v) 0)) rfl hl.1 rfl (Nat.le_of_ble_eq_true rfl) dX1_size_24 ⟨Nat.zero_le _, Nat.zero_le _⟩ (fun u' H locs hw hP hD hS => ?_)
      subst hw
      have hP : va_P D vwCl (mw ki g (ms_cs (ms_kn (ms_cr (ms_de (ms_se (ms_st (ms_bg (ms_e (ms_n u v) 0) 0) 0) 0) 0) 0) (zer 12 (m_kn u))) (zer 48 (m_cs u)))) H := hP
      have hD : va_D A (mw ki g (ms_cs (ms_kn (ms_cr (ms_de (ms_se (ms_st (ms_bg (ms_e (ms_n u v) 0) 0) 0) 0) 0) 0) (zer 12 (m_kn u))) (zer 48 (m_cs u)))) := hD
      refine lv_iconst (v := 1) hx hb dX1_size_27 (by decide) ?_
      exact W.zret (ty := .boolean) (v := 1) hx hb hr rfl (fun t ht hW => ⟨⟨1, (ms_cs (ms_kn (ms_cr (ms_de (ms_se (ms_st (ms_bg (ms_e (ms_n u v) 0) 0) 0) 0) 0) 0) (zer 12 (m_kn u))) (zer 48 (m_cs u))), rfl, ⟨by simp only [rng, if_neg c1, if_pos c2, Bool.false_eq_true, ↓reduceIte] <;> rfl, by simp only [rng, if_neg c1, if_pos c2, Bool.false_eq_true, ↓reduceIte] <;> rfl⟩, by rw [ht]; exact hP, va_K.moved hW.alike hK, hD⟩, hS.F ht⟩) hS.2.2 dX1_size_28
    · refine lv_iconst (v := 0) hx hb dX1_size_11 (by decide) ?_
      exact W.zret (ty := .boolean) (v := 0) hx hb hr rfl (fun t ht hW => ⟨⟨0, u, rfl, ⟨by simp only [rng, if_neg c1, if_neg c2, Bool.false_eq_true, ↓reduceIte] <;> rfl, by simp only [rng, if_neg c1, if_neg c2, Bool.false_eq_true, ↓reduceIte] <;> rfl⟩, by rw [ht]; exact hP, va_K.moved hW.alike hK, hD⟩, hS.F ht⟩) hS.2.2 dX1_size_12

set_option maxHeartbeats 4000000 in
set_option maxRecDepth 100000 in
/-- parts -/
theorem t_X1_parts (l : Launch) (D : va_G) (ki : Nat → ClassId) (g : Nat → Nat) (u : MS) (sz : Nat) (v : Int32)  : gMi l yX1_parts wsX1_parts ({ frames := 1, cells := 0, slots := 0, locals := 21 }) D (mw ki g) (mty ki) u sz [.ref (g 0), .int v] (fun r u' => r = b2 (rng 4 v) ∧ u' = if rng 4 v = true then M_parts u v else u) := by
  refine g_ofi (cc := cX1_parts) (maxL := 2) (ret := some .boolean) (own := RX1) (by decide) rfl rfl ?_
  intro p e s m below meth c A hx hb hr hlocks hml hts hown hK hD hA H locs hP hS
  have hl := lv_entry ([.ref (g 0), .int v]) (n := 2) (Nat.le_of_ble_eq_true rfl)
  rw [lg_entry_eq]
  generalize (lg_sl ([.ref (g 0), .int v]) ++ List.replicate (2 - (lg_sl ([.ref (g 0), .int v])).length) Slot.unset).toArray = ls at hl ⊢
  have hl : lv_has ls 2 [(0, .ref (g 0)), (1, .int v)] := hl
  have hf_24 := hts (.fieldLink RX1 24 "StepGraphModel" "k" "I") (by decide +kernel)
  have hin : ∀ w ∈ wsX10, w ∈ wsX1_parts := by decide +kernel
  refine lv_iload_n hx hb dX1_parts_0 rfl (lv_at hl 1 rfl) ?_
  refine lv_iconst (v := 1) hx hb dX1_parts_1 (by decide) ?_
  refine lv_icmp_lt (tgt := 10) hx hb dX1_parts_2 (by decide) (fun c1 => ?_) (fun c1 => ?_)
  · refine lv_iconst (v := 0) hx hb dX1_parts_10 (by decide) ?_
    exact W.zret (ty := .boolean) (v := 0) hx hb hr rfl (fun t ht hW => ⟨⟨0, u, rfl, ⟨by simp only [rng, if_pos c1, Bool.false_eq_true, ↓reduceIte] <;> rfl, by simp only [rng, if_pos c1, Bool.false_eq_true, ↓reduceIte] <;> rfl⟩, by rw [ht]; exact hP, va_K.moved hW.alike hK, hD⟩, hS.F ht⟩) hS.2.2 dX1_parts_11
  · refine lv_iload_n hx hb dX1_parts_5 rfl (lv_at hl 1 rfl) ?_
    refine lv_iconst (v := 4) hx hb dX1_parts_6 (by decide) ?_
    refine lv_icmp_le (tgt := 12) hx hb dX1_parts_7 (by decide) (fun c2 => ?_) (fun c2 => ?_)
    · refine lv_aload_n hx hb dX1_parts_12 rfl (lv_at hl 0 rfl) ?_
      refine lv_iload_n hx hb dX1_parts_13 rfl (lv_at hl 1 rfl) ?_
      refine m_put (u := u) hx hb hts hin hown hK hP hD hS 5 (by decide) rfl rfl hf_24 .int (by decide +kernel) rfl rfl (ms_k u v) rfl dX1_parts_14 (fun H locs hP hD hS => ?_)
      refine lv_aload_n hx hb dX1_parts_17 rfl (lv_at hl 0 rfl) ?_
      refine g_callv (w := mw ki g) (u := ms_k u v) (As := []) (rest := []) ⟨hx, hb, hml, hown, hts⟩ (t_X1_forget l D ki g (ms_k u v) H.size  ) (cwV 0 hts gX1_parts_X1_forget rfl rfl rfl (by decide +kernel) ⟨Nat.le_of_ble_eq_true rfl, Nat.le_of_ble_eq_true rfl⟩) hK hP hD hS hA rfl rfl (mw_0 ki g (ms_k u v)) rfl hl.1 rfl (Nat.le_of_ble_eq_true rfl) dX1_parts_18 ⟨Nat.zero_le _, Nat.zero_le _⟩ (fun u' H locs hw hP hD hS => ?_)
      subst hw
      have hP : va_P D vwCl (mw ki g (ms_cs (ms_kn (ms_cr (ms_de (ms_se (ms_st (ms_bg (ms_k u v) 0) 0) 0) 0) 0) (zer 12 (m_kn u))) (zer 48 (m_cs u)))) H := hP
      have hD : va_D A (mw ki g (ms_cs (ms_kn (ms_cr (ms_de (ms_se (ms_st (ms_bg (ms_k u v) 0) 0) 0) 0) 0) (zer 12 (m_kn u))) (zer 48 (m_cs u)))) := hD
      refine lv_iconst (v := 1) hx hb dX1_parts_21 (by decide) ?_
      exact W.zret (ty := .boolean) (v := 1) hx hb hr rfl (fun t ht hW => ⟨⟨1, (ms_cs (ms_kn (ms_cr (ms_de (ms_se (ms_st (ms_bg (ms_k u v) 0) 0) 0) 0) 0) (zer 12 (m_kn u))) (zer 48 (m_cs u))), rfl, ⟨by simp only [rng, if_neg c1, if_pos c2, Bool.false_eq_true, ↓reduceIte] <;> rfl, by simp only [rng, if_neg c1, if_pos c2, Bool.false_eq_true, ↓reduceIte] <;> rfl⟩, by rw [ht]; exact hP, va_K.moved hW.alike hK, hD⟩, hS.F ht⟩) hS.2.2 dX1_parts_22
    · refine lv_iconst (v := 0) hx hb dX1_parts_10 (by decide) ?_
      exact W.zret (ty := .boolean) (v := 0) hx hb hr rfl (fun t ht hW => ⟨⟨0, u, rfl, ⟨by simp only [rng, if_neg c1, if_neg c2, Bool.false_eq_true, ↓reduceIte] <;> rfl, by simp only [rng, if_neg c1, if_neg c2, Bool.false_eq_true, ↓reduceIte] <;> rfl⟩, by rw [ht]; exact hP, va_K.moved hW.alike hK, hD⟩, hS.F ht⟩) hS.2.2 dX1_parts_11

set_option maxHeartbeats 4000000 in
set_option maxRecDepth 100000 in
/-- isAny -/
theorem t_X1_isAny (l : Launch) (D : va_G) (ki : Nat → ClassId) (g : Nat → Nat) (u : MS) (sz : Nat)   : gMi l yX1_isAny wsX1_isAny ({ frames := 0, cells := 0, slots := 0, locals := 0 }) D (mw ki g) (mty ki) u sz [.ref (g 0)] (fun r u' => r = b2 (M_any 48 (m_cs u)) ∧ u' = u) := by
  refine g_ofi (cc := cX1_isAny) (maxL := 2) (ret := some .boolean) (own := RX1) (by decide) rfl rfl ?_
  intro p e s m below meth c A hx hb hr hlocks hml hts hown hK hD hA H locs hP hS
  have hl := lv_entry ([.ref (g 0)]) (n := 2) (Nat.le_of_ble_eq_true rfl)
  rw [lg_entry_eq]
  generalize (lg_sl ([.ref (g 0)]) ++ List.replicate (2 - (lg_sl ([.ref (g 0)])).length) Slot.unset).toArray = ls at hl ⊢
  have hl : lv_has ls 2 [(0, .ref (g 0))] := hl
  have hf_37 := hts (.fieldLink RX1 37 "StepGraphModel" "comes" "[Z") (by decide +kernel)
  have hin : ∀ w ∈ wsX10, w ∈ wsX1_isAny := by decide +kernel
  refine lv_iconst (v := 0) hx hb dX1_isAny_0 (by decide) ?_
  refine lv_istore_n (lv' := [(1, .int 0), (0, .ref (g 0))]) hx hb dX1_isAny_1 rfl hl (by decide) rfl (fun ls hl => ?_)
  have loop : ∀ (r i : Nat), i + r = 48 → ∀ (H : Heap) (locs : List Loc) (ls : Array Slot), va_P D vwCl (mw ki g (u)) H → va_D A (mw ki g (u)) → va_S A s.heap H locs → lv_has ls 2 [(1, .int (nI (i))), (0, .ref (g 0))] → M_any i (m_cs u) = false → W p l e (headSpec wsX1_isAny { frames := 0, cells := 0, slots := 0, locals := 0 }).room s m ([.ref (g 0)] : List Value).toArray below meth c H locs 0 0 (MQ below (va_Qi (fun r u' => r = b2 (M_any 48 (m_cs u)) ∧ u' = u) (gQ D (mw ki g) (mty ki) A) A) ([.ref (g 0)] : List Value).toArray s 0 0 A) (F0 m 2 ls []) := by
    intro r
    induction r with
    | zero =>
      intro i hii H locs ls hP hD hS hl hany
      have hii : 48 = i := by omega
      subst hii
      refine lv_iload_n hx hb dX1_isAny_2 rfl (lv_at hl 0 rfl) ?_
      refine lv_bipush (v := 48) hx hb dX1_isAny_3 (by decide) ?_
      refine lv_icmp_ge (tgt := 25) hx hb dX1_isAny_5 (by decide) (fun c1 => ?_) (fun c1 => absurd (by decide) c1)
      refine lv_iconst (v := 0) hx hb dX1_isAny_25 (by decide) ?_
      exact W.zret (ty := .boolean) (v := 0) hx hb hr rfl (fun t ht hW => ⟨⟨0, u, rfl, ⟨by rw [hany]; rfl, rfl⟩, by rw [ht]; exact hP, va_K.moved hW.alike hK, hD⟩, hS.F ht⟩) hS.2.2 dX1_isAny_26
    | succ r ih =>
      intro i hii H locs ls hP hD hS hl hany
      refine lv_iload_n hx hb dX1_isAny_2 rfl (lv_at hl 0 rfl) ?_
      refine lv_bipush (v := 48) hx hb dX1_isAny_3 (by decide) ?_
      refine lv_icmp_ge (tgt := 25) hx hb dX1_isAny_5 (by decide) (fun c2 => absurd c2 (nI_ge (b := 48) (by omega) (by omega))) (fun c2 => ?_)
      refine lv_aload_n hx hb dX1_isAny_8 rfl (lv_at hl 1 rfl) ?_
      refine m_get (u := u) hx hb hts hin hown hK hP 16 (by decide) rfl hf_37 (.ref (g 7)) rfl dX1_isAny_9 ?_
      refine lv_iload_n hx hb dX1_isAny_12 rfl (lv_at hl 0 rfl) ?_
      refine k_zald hx hb hK hP 7 2 (f := m_cs u) (n := 48) rfl rfl (j := i) (by omega) (by decide) dX1_isAny_13 ?_
      refine lv_if_eq (tgt := 19) hx hb dX1_isAny_14 (by decide) (fun c3 => ?_) (fun c3 => ?_)
      · refine lv_iinc (v := nI (i + 1)) (lv' := [(1, .int (nI (i + 1))), (0, .ref (g 0))]) hx hb dX1_isAny_19 hl (k := 0) rfl (nI_1 i) (by decide) rfl (fun ls hl => ?_)
        refine lv_goto (tgt := 2) hx hb dX1_isAny_22 (by decide) ?_
        exact ih (i + 1) (by omega) _ _ _ hP hD hS (lv_sub hl [0, 1] rfl) (M_any_succ hany c3)
      · refine lv_iconst (v := 1) hx hb dX1_isAny_17 (by decide) ?_
        exact W.zret (ty := .boolean) (v := 1) hx hb hr rfl (fun t ht hW => ⟨⟨1, u, rfl, ⟨by rw [M_any_of (n := 48) (show i < 48 by omega) c3]; rfl, rfl⟩, by rw [ht]; exact hP, va_K.moved hW.alike hK, hD⟩, hS.F ht⟩) hS.2.2 dX1_isAny_18
  exact loop (48) 0 (by omega) H locs ls hP hD hS (lv_sub hl [0, 1] rfl) rfl

set_option maxHeartbeats 4000000 in
set_option maxRecDepth 100000 in
/-- over -/
theorem t_X1_over (l : Launch) (D : va_G) (ki : Nat → ClassId) (g : Nat → Nat) (u : MS) (sz : Nat)   : gMi l yX1_over wsX1_over ({ frames := 1, cells := 0, slots := 0, locals := 21 }) D (mw ki g) (mty ki) u sz [.ref (g 0)] (fun r u' => r = b2 (M_over u) ∧ u' = u) := by
  refine g_ofi (cc := cX1_over) (maxL := 1) (ret := some .boolean) (own := RX1) (by decide) rfl rfl ?_
  intro p e s m below meth c A hx hb hr hlocks hml hts hown hK hD hA H locs hP hS
  have hl := lv_entry ([.ref (g 0)]) (n := 1) (Nat.le_of_ble_eq_true rfl)
  rw [lg_entry_eq]
  generalize (lg_sl ([.ref (g 0)]) ++ List.replicate (1 - (lg_sl ([.ref (g 0)])).length) Slot.unset).toArray = ls at hl ⊢
  have hl : lv_has ls 1 [(0, .ref (g 0))] := hl
  have hf_52 := hts (.fieldLink RX1 52 "StepGraphModel" "begun" "Z") (by decide +kernel)
  have hin : ∀ w ∈ wsX10, w ∈ wsX1_over := by decide +kernel
  refine lv_aload_n hx hb dX1_over_0 rfl (lv_at hl 0 rfl) ?_
  refine m_get (u := u) hx hb hts hin hown hK hP 6 (by decide) rfl hf_52 (.int (m_bg u)) rfl dX1_over_1 ?_
  refine lv_if_eq (tgt := 18) hx hb dX1_over_4 (by decide) (fun c1 => ?_) (fun c1 => ?_)
  · refine lv_iconst (v := 0) hx hb dX1_over_18 (by decide) ?_
    exact W.zret (ty := .boolean) (v := 0) hx hb hr rfl (fun t ht hW => ⟨⟨0, u, rfl, ⟨by simp only [M_over, if_pos c1, Bool.false_eq_true, ↓reduceIte] <;> rfl, rfl⟩, by rw [ht]; exact hP, va_K.moved hW.alike hK, hD⟩, hS.F ht⟩) hS.2.2 dX1_over_19
  · refine lv_aload_n hx hb dX1_over_7 rfl (lv_at hl 0 rfl) ?_
    refine g_calli (w := mw ki g) (u := u) (As := []) (rest := []) ⟨hx, hb, hml, hown, hts⟩ (t_X1_isAny l D ki g (u) H.size  ) (cwV 0 hts gX1_over_X1_isAny rfl rfl rfl (by decide +kernel) ⟨Nat.le_of_ble_eq_true rfl, Nat.le_of_ble_eq_true rfl⟩) hK hP hD hS hA rfl rfl (mw_0 ki g (u)) rfl hl.1 rfl (Nat.le_of_ble_eq_true rfl) dX1_over_8 ⟨Nat.zero_le _, Nat.zero_le _⟩ (fun r2 u' H locs hw hP hD hS => ?_)
    obtain ⟨rfl, rfl⟩ := hw
    have hP : va_P D vwCl (mw ki g (u)) H := hP
    have hD : va_D A (mw ki g (u)) := hD
    refine W.eq (g2 := F0 m 11 ls [.int (b2 (M_any 48 (m_cs u)))]) rfl ?_
    refine lv_if_ne (tgt := 18) hx hb dX1_over_11 (by decide) (fun c3 => ?_) (fun c3 => ?_)
    · have c3 := b2_1 c3
      refine lv_iconst (v := 0) hx hb dX1_over_18 (by decide) ?_
      exact W.zret (ty := .boolean) (v := 0) hx hb hr rfl (fun t ht hW => ⟨⟨0, u, rfl, ⟨by simp only [M_over, if_neg c1, if_pos c3, Bool.false_eq_true, ↓reduceIte] <;> rfl, rfl⟩, by rw [ht]; exact hP, va_K.moved hW.alike hK, hD⟩, hS.F ht⟩) hS.2.2 dX1_over_19
    · have c3 := b2_0 c3
      refine lv_iconst (v := 1) hx hb dX1_over_14 (by decide) ?_
      refine lv_goto (tgt := 19) hx hb dX1_over_15 (by decide) ?_
      exact W.zret (ty := .boolean) (v := 1) hx hb hr rfl (fun t ht hW => ⟨⟨1, u, rfl, ⟨by simp only [M_over, if_neg c1, if_neg c3, Bool.false_eq_true, ↓reduceIte] <;> rfl, rfl⟩, by rw [ht]; exact hP, va_K.moved hW.alike hK, hD⟩, hS.F ht⟩) hS.2.2 dX1_over_19

set_option maxHeartbeats 4000000 in
set_option maxRecDepth 100000 in
/-- edge -/
theorem t_X1_edge (l : Launch) (D : va_G) (ki : Nat → ClassId) (g : Nat → Nat) (u : MS) (sz : Nat) (a b : Int32) (w : UInt64) (ec : Nat) (he : m_e u = nI ec) (he30 : ec ≤ 30) (hw : ¬ dl w D0 < 0 → ¬ 0 < dg w MX → vf_n64 (FP.dadd w D0)) : gMi l yX1_edge wsX1_edge ({ frames := 1, cells := 0, slots := 0, locals := 21 }) D (mw ki g) (mty ki) u sz [.ref (g 0), .int a, .int b, .double w] (fun r u' => r = b2 (M_eok (m_n u) (m_e u) a b w) ∧ u' = if M_eok (m_n u) (m_e u) a b w = true then M_edge ec u a b w else u) := by
  refine g_ofi (cc := cX1_edge) (maxL := 5) (ret := some .boolean) (own := RX1) (by decide) rfl rfl ?_
  intro p e s m below meth c A hx hb hr hlocks hml hts hown hK hD hA H locs hP hS
  have hl := lv_entry ([.ref (g 0), .int a, .int b, .double w]) (n := 5) (Nat.le_of_ble_eq_true rfl)
  rw [lg_entry_eq]
  generalize (lg_sl ([.ref (g 0), .int a, .int b, .double w]) ++ List.replicate (5 - (lg_sl ([.ref (g 0), .int a, .int b, .double w])).length) Slot.unset).toArray = ls at hl ⊢
  have hl : lv_has ls 5 [(0, .ref (g 0)), (1, .int a), (2, .int b), (3, .double w)] := hl
  have hf_7 := hts (.fieldLink RX1 7 "StepGraphModel" "froms" "[I") (by decide +kernel)
  have hf_13 := hts (.fieldLink RX1 13 "StepGraphModel" "tos" "[I") (by decide +kernel)
  have hf_16 := hts (.fieldLink RX1 16 "StepGraphModel" "weights" "[D") (by decide +kernel)
  have hf_68 := hts (.fieldLink RX1 68 "StepGraphModel" "edges" "I") (by decide +kernel)
  have hk_78 := hts (.constantDouble RX1 78 (4696837146684686336)) (by decide +kernel)
  have hin : ∀ w ∈ wsX10, w ∈ wsX1_edge := by decide +kernel
  refine lv_aload_n hx hb dX1_edge_0 rfl (lv_at hl 0 rfl) ?_
  refine lv_iload_n hx hb dX1_edge_1 rfl (lv_at hl 1 rfl) ?_
  refine g_calli (w := mw ki g) (u := u) (As := [.int a]) (rest := []) ⟨hx, hb, hml, hown, hts⟩ (t_X1_isVertex l D ki g (u) H.size a ) (cwV 1 hts gX1_edge_X1_isVertex rfl rfl rfl (by decide +kernel) ⟨Nat.le_of_ble_eq_true rfl, Nat.le_of_ble_eq_true rfl⟩) hK hP hD hS hA rfl rfl (mw_0 ki g (u)) rfl hl.1 rfl (Nat.le_of_ble_eq_true rfl) dX1_edge_2 ⟨Nat.zero_le _, Nat.zero_le _⟩ (fun r1 u' H locs hw hP hD hS => ?_)
  obtain ⟨rfl, rfl⟩ := hw
  have hP : va_P D vwCl (mw ki g (u)) H := hP
  have hD : va_D A (mw ki g (u)) := hD
  refine W.eq (g2 := F0 m 5 ls [.int (b2 (C_isV (m_n u) a))]) rfl ?_
  refine lv_if_eq (tgt := 44) hx hb dX1_edge_5 (by decide) (fun c2 => ?_) (fun c2 => ?_)
  · have c2 := b2_0 c2
    refine lv_iconst (v := 0) hx hb dX1_edge_44 (by decide) ?_
    exact W.zret (ty := .boolean) (v := 0) hx hb hr rfl (fun t ht hW => ⟨⟨0, u, rfl, ⟨by simp only [M_eok, M_edge, he, if_neg c2, Bool.false_eq_true, ↓reduceIte] <;> rfl, by simp only [M_eok, M_edge, he, if_neg c2, Bool.false_eq_true, ↓reduceIte] <;> rfl⟩, by rw [ht]; exact hP, va_K.moved hW.alike hK, hD⟩, hS.F ht⟩) hS.2.2 dX1_edge_45
  · have c2 := b2_1 c2
    refine lv_aload_n hx hb dX1_edge_8 rfl (lv_at hl 0 rfl) ?_
    refine lv_iload_n hx hb dX1_edge_9 rfl (lv_at hl 2 rfl) ?_
    refine g_calli (w := mw ki g) (u := u) (As := [.int b]) (rest := []) ⟨hx, hb, hml, hown, hts⟩ (t_X1_isVertex l D ki g (u) H.size b ) (cwV 1 hts gX1_edge_X1_isVertex rfl rfl rfl (by decide +kernel) ⟨Nat.le_of_ble_eq_true rfl, Nat.le_of_ble_eq_true rfl⟩) hK hP hD hS hA rfl rfl (mw_0 ki g (u)) rfl hl.1 rfl (Nat.le_of_ble_eq_true rfl) dX1_edge_10 ⟨Nat.zero_le _, Nat.zero_le _⟩ (fun r3 u' H locs hw hP hD hS => ?_)
    obtain ⟨rfl, rfl⟩ := hw
    have hP : va_P D vwCl (mw ki g (u)) H := hP
    have hD : va_D A (mw ki g (u)) := hD
    refine W.eq (g2 := F0 m 13 ls [.int (b2 (C_isV (m_n u) b))]) rfl ?_
    refine lv_if_eq (tgt := 44) hx hb dX1_edge_13 (by decide) (fun c4 => ?_) (fun c4 => ?_)
    · have c4 := b2_0 c4
      refine lv_iconst (v := 0) hx hb dX1_edge_44 (by decide) ?_
      exact W.zret (ty := .boolean) (v := 0) hx hb hr rfl (fun t ht hW => ⟨⟨0, u, rfl, ⟨by simp only [M_eok, M_edge, he, if_pos c2, if_neg c4, Bool.false_eq_true, ↓reduceIte] <;> rfl, by simp only [M_eok, M_edge, he, if_pos c2, if_neg c4, Bool.false_eq_true, ↓reduceIte] <;> rfl⟩, by rw [ht]; exact hP, va_K.moved hW.alike hK, hD⟩, hS.F ht⟩) hS.2.2 dX1_edge_45
    · have c4 := b2_1 c4
      refine lv_iload_n hx hb dX1_edge_16 rfl (lv_at hl 1 rfl) ?_
      refine lv_iload_n hx hb dX1_edge_17 rfl (lv_at hl 2 rfl) ?_
      refine lv_icmp_eq (tgt := 44) hx hb dX1_edge_18 (by decide) (fun c5 => ?_) (fun c5 => ?_)
      · refine lv_iconst (v := 0) hx hb dX1_edge_44 (by decide) ?_
        exact W.zret (ty := .boolean) (v := 0) hx hb hr rfl (fun t ht hW => ⟨⟨0, u, rfl, ⟨by simp only [M_eok, M_edge, he, if_pos c2, if_pos c4, if_pos c5, Bool.false_eq_true, ↓reduceIte] <;> rfl, by simp only [M_eok, M_edge, he, if_pos c2, if_pos c4, if_pos c5, Bool.false_eq_true, ↓reduceIte] <;> rfl⟩, by rw [ht]; exact hP, va_K.moved hW.alike hK, hD⟩, hS.F ht⟩) hS.2.2 dX1_edge_45
      · refine lv_dload_n hx hb dX1_edge_21 rfl (lv_at hl 3 rfl) ?_
        refine lv_dconst0 hx hb dX1_edge_22 ?_
        refine k_dcmpl hx hb dX1_edge_23 ?_
        refine lv_if_lt (tgt := 44) hx hb dX1_edge_24 (by decide) (fun c6 => ?_) (fun c6 => ?_)
        · refine lv_iconst (v := 0) hx hb dX1_edge_44 (by decide) ?_
          exact W.zret (ty := .boolean) (v := 0) hx hb hr rfl (fun t ht hW => ⟨⟨0, u, rfl, ⟨by simp only [M_eok, M_edge, he, if_pos c2, if_pos c4, if_neg c5, if_pos c6, Bool.false_eq_true, ↓reduceIte] <;> rfl, by simp only [M_eok, M_edge, he, if_pos c2, if_pos c4, if_neg c5, if_pos c6, Bool.false_eq_true, ↓reduceIte] <;> rfl⟩, by rw [ht]; exact hP, va_K.moved hW.alike hK, hD⟩, hS.F ht⟩) hS.2.2 dX1_edge_45
        · refine lv_dload_n hx hb dX1_edge_27 rfl (lv_at hl 3 rfl) ?_
          refine lv_ldc2d hx hb hown hk_78 dX1_edge_28 ?_
          refine k_dcmpg hx hb dX1_edge_31 ?_
          refine lv_if_gt (tgt := 44) hx hb dX1_edge_32 (by decide) (fun c7 => ?_) (fun c7 => ?_)
          · refine lv_iconst (v := 0) hx hb dX1_edge_44 (by decide) ?_
            exact W.zret (ty := .boolean) (v := 0) hx hb hr rfl (fun t ht hW => ⟨⟨0, u, rfl, ⟨by simp only [M_eok, M_edge, he, if_pos c2, if_pos c4, if_neg c5, if_neg c6, if_pos c7, Bool.false_eq_true, ↓reduceIte] <;> rfl, by simp only [M_eok, M_edge, he, if_pos c2, if_pos c4, if_neg c5, if_neg c6, if_pos c7, Bool.false_eq_true, ↓reduceIte] <;> rfl⟩, by rw [ht]; exact hP, va_K.moved hW.alike hK, hD⟩, hS.F ht⟩) hS.2.2 dX1_edge_45
          · refine lv_aload_n hx hb dX1_edge_35 rfl (lv_at hl 0 rfl) ?_
            refine m_get (u := u) hx hb hts hin hown hK hP 4 (by decide) rfl hf_68 (.int (nI ec)) (congrArg (fun z => some (Value.int z)) he) dX1_edge_36 ?_
            refine lv_bipush (v := 30) hx hb dX1_edge_39 (by decide) ?_
            refine lv_icmp_ne (tgt := 46) hx hb dX1_edge_41 (by decide) (fun c8 => ?_) (fun c8 => ?_)
            · have hlt : ec < 30 := by
                rcases Nat.lt_or_ge ec 30 with q | q
                · exact q
                · exact absurd (show nI ec = 30 by rw [show ec = 30 by omega]; rfl) c8
              refine lv_aload_n hx hb dX1_edge_46 rfl (lv_at hl 0 rfl) ?_
              refine m_get (u := u) hx hb hts hin hown hK hP 0 (by decide) rfl hf_7 (.ref (g 1)) rfl dX1_edge_47 ?_
              refine lv_aload_n hx hb dX1_edge_50 rfl (lv_at hl 0 rfl) ?_
              refine m_get (u := u) hx hb hts hin hown hK hP 4 (by decide) rfl hf_68 (.int (nI ec)) (congrArg (fun z => some (Value.int z)) he) dX1_edge_51 ?_
              refine lv_iload_n hx hb dX1_edge_54 rfl (lv_at hl 1 rfl) ?_
              refine k_iast hx hb hK hP hD hS 1 0 (f := m_fr u) (n := 30) rfl rfl (j := ec) (by omega) (by decide) dX1_edge_55 (fun H locs hP hD hS => ?_)
              have hP : va_P D vwCl (mw ki g (ms_fr u (upd (m_fr u) ec a))) H := hP
              have hD : va_D A (mw ki g (ms_fr u (upd (m_fr u) ec a))) := hD
              refine lv_aload_n hx hb dX1_edge_56 rfl (lv_at hl 0 rfl) ?_
              refine m_get (u := ms_fr u (upd (m_fr u) ec a)) hx hb hts hin hown hK hP 1 (by decide) rfl hf_13 (.ref (g 2)) rfl dX1_edge_57 ?_
              refine lv_aload_n hx hb dX1_edge_60 rfl (lv_at hl 0 rfl) ?_
              refine m_get (u := ms_fr u (upd (m_fr u) ec a)) hx hb hts hin hown hK hP 4 (by decide) rfl hf_68 (.int (nI ec)) (congrArg (fun z => some (Value.int z)) he) dX1_edge_61 ?_
              refine lv_iload_n hx hb dX1_edge_64 rfl (lv_at hl 2 rfl) ?_
              refine k_iast hx hb hK hP hD hS 2 0 (f := m_to u) (n := 30) rfl rfl (j := ec) (by omega) (by decide) dX1_edge_65 (fun H locs hP hD hS => ?_)
              have hP : va_P D vwCl (mw ki g (ms_to (ms_fr u (upd (m_fr u) ec a)) (upd (m_to u) ec b))) H := hP
              have hD : va_D A (mw ki g (ms_to (ms_fr u (upd (m_fr u) ec a)) (upd (m_to u) ec b))) := hD
              refine lv_aload_n hx hb dX1_edge_66 rfl (lv_at hl 0 rfl) ?_
              refine m_get (u := ms_to (ms_fr u (upd (m_fr u) ec a)) (upd (m_to u) ec b)) hx hb hts hin hown hK hP 2 (by decide) rfl hf_16 (.ref (g 3)) rfl dX1_edge_67 ?_
              refine lv_aload_n hx hb dX1_edge_70 rfl (lv_at hl 0 rfl) ?_
              refine m_get (u := ms_to (ms_fr u (upd (m_fr u) ec a)) (upd (m_to u) ec b)) hx hb hts hin hown hK hP 4 (by decide) rfl hf_68 (.int (nI ec)) (congrArg (fun z => some (Value.int z)) he) dX1_edge_71 ?_
              refine lv_dload_n hx hb dX1_edge_74 rfl (lv_at hl 3 rfl) ?_
              refine lv_dconst0 hx hb dX1_edge_75 ?_
              refine lv_dadd hx hb dX1_edge_76 (hw c6 c7) ?_
              refine k_dast hx hb hK hP hD hS 3 1 (f := m_wt u) (n := 30) rfl rfl (j := ec) (by omega) (by decide) dX1_edge_77 (fun H locs hP hD hS => ?_)
              have hP : va_P D vwCl (mw ki g (ms_wt (ms_to (ms_fr u (upd (m_fr u) ec a)) (upd (m_to u) ec b)) (vf_upd (m_wt u) ec (FP.dadd w D0)))) H := hP
              have hD : va_D A (mw ki g (ms_wt (ms_to (ms_fr u (upd (m_fr u) ec a)) (upd (m_to u) ec b)) (vf_upd (m_wt u) ec (FP.dadd w D0)))) := hD
              refine lv_aload_n hx hb dX1_edge_78 rfl (lv_at hl 0 rfl) ?_
              refine lv_aload_n hx hb dX1_edge_79 rfl (lv_at hl 0 rfl) ?_
              refine m_get (u := ms_wt (ms_to (ms_fr u (upd (m_fr u) ec a)) (upd (m_to u) ec b)) (vf_upd (m_wt u) ec (FP.dadd w D0))) hx hb hts hin hown hK hP 4 (by decide) rfl hf_68 (.int (nI ec)) (congrArg (fun z => some (Value.int z)) he) dX1_edge_80 ?_
              refine lv_iconst (v := 1) hx hb dX1_edge_83 (by decide) ?_
              refine lv_iadd hx hb dX1_edge_84 ?_
              refine m_put (u := ms_wt (ms_to (ms_fr u (upd (m_fr u) ec a)) (upd (m_to u) ec b)) (vf_upd (m_wt u) ec (FP.dadd w D0))) hx hb hts hin hown hK hP hD hS 4 (by decide) rfl rfl hf_68 .int (by decide +kernel) rfl rfl (ms_wt (ms_to (ms_fr (ms_e u ((nI ec) + 1)) (upd (m_fr u) ec a)) (upd (m_to u) ec b)) (vf_upd (m_wt u) ec (FP.dadd w D0))) rfl dX1_edge_85 (fun H locs hP hD hS => ?_)
              refine lv_aload_n hx hb dX1_edge_88 rfl (lv_at hl 0 rfl) ?_
              refine g_callv (w := mw ki g) (u := ms_wt (ms_to (ms_fr (ms_e u ((nI ec) + 1)) (upd (m_fr u) ec a)) (upd (m_to u) ec b)) (vf_upd (m_wt u) ec (FP.dadd w D0))) (As := []) (rest := []) ⟨hx, hb, hml, hown, hts⟩ (t_X1_forget l D ki g (ms_wt (ms_to (ms_fr (ms_e u ((nI ec) + 1)) (upd (m_fr u) ec a)) (upd (m_to u) ec b)) (vf_upd (m_wt u) ec (FP.dadd w D0))) H.size  ) (cwV 0 hts gX1_edge_X1_forget rfl rfl rfl (by decide +kernel) ⟨Nat.le_of_ble_eq_true rfl, Nat.le_of_ble_eq_true rfl⟩) hK hP hD hS hA rfl rfl (mw_0 ki g (ms_wt (ms_to (ms_fr (ms_e u ((nI ec) + 1)) (upd (m_fr u) ec a)) (upd (m_to u) ec b)) (vf_upd (m_wt u) ec (FP.dadd w D0)))) rfl hl.1 rfl (Nat.le_of_ble_eq_true rfl) dX1_edge_89 ⟨Nat.zero_le _, Nat.zero_le _⟩ (fun u' H locs hw hP hD hS => ?_)
              subst hw
              have hP : va_P D vwCl (mw ki g (ms_cs (ms_kn (ms_wt (ms_to (ms_fr (ms_cr (ms_de (ms_se (ms_st (ms_bg (ms_e u ((nI ec) + 1)) 0) 0) 0) 0) 0) (upd (m_fr u) ec a)) (upd (m_to u) ec b)) (vf_upd (m_wt u) ec (FP.dadd w D0))) (zer 12 (m_kn u))) (zer 48 (m_cs u)))) H := hP
              have hD : va_D A (mw ki g (ms_cs (ms_kn (ms_wt (ms_to (ms_fr (ms_cr (ms_de (ms_se (ms_st (ms_bg (ms_e u ((nI ec) + 1)) 0) 0) 0) 0) 0) (upd (m_fr u) ec a)) (upd (m_to u) ec b)) (vf_upd (m_wt u) ec (FP.dadd w D0))) (zer 12 (m_kn u))) (zer 48 (m_cs u)))) := hD
              refine lv_iconst (v := 1) hx hb dX1_edge_92 (by decide) ?_
              exact W.zret (ty := .boolean) (v := 1) hx hb hr rfl (fun t ht hW => ⟨⟨1, (ms_cs (ms_kn (ms_wt (ms_to (ms_fr (ms_cr (ms_de (ms_se (ms_st (ms_bg (ms_e u ((nI ec) + 1)) 0) 0) 0) 0) 0) (upd (m_fr u) ec a)) (upd (m_to u) ec b)) (vf_upd (m_wt u) ec (FP.dadd w D0))) (zer 12 (m_kn u))) (zer 48 (m_cs u))), rfl, ⟨by simp only [M_eok, M_edge, he, if_pos c2, if_pos c4, if_neg c5, if_neg c6, if_neg c7, if_neg c8, Bool.false_eq_true, ↓reduceIte] <;> rfl, by simp only [M_eok, M_edge, he, if_pos c2, if_pos c4, if_neg c5, if_neg c6, if_neg c7, if_neg c8, Bool.false_eq_true, ↓reduceIte] <;> rfl⟩, by rw [ht]; exact hP, va_K.moved hW.alike hK, hD⟩, hS.F ht⟩) hS.2.2 dX1_edge_93
            · refine lv_iconst (v := 0) hx hb dX1_edge_44 (by decide) ?_
              exact W.zret (ty := .boolean) (v := 0) hx hb hr rfl (fun t ht hW => ⟨⟨0, u, rfl, ⟨by simp only [M_eok, M_edge, he, if_pos c2, if_pos c4, if_neg c5, if_neg c6, if_neg c7, if_pos c8, Bool.false_eq_true, ↓reduceIte] <;> rfl, by simp only [M_eok, M_edge, he, if_pos c2, if_pos c4, if_neg c5, if_neg c6, if_neg c7, if_pos c8, Bool.false_eq_true, ↓reduceIte] <;> rfl⟩, by rw [ht]; exact hP, va_K.moved hW.alike hK, hD⟩, hS.F ht⟩) hS.2.2 dX1_edge_45

set_option maxHeartbeats 4000000 in
set_option maxRecDepth 100000 in
/-- value -/
theorem t_X1_value (l : Launch) (D : va_G) (ki : Nat → ClassId) (g : Nat → Nat) (u : MS) (sz : Nat) (v : Int32) (n : Nat) (hn : m_n u = nI n) (hn12 : n ≤ 12)  : gMd l yX1_value wsX1_value ({ frames := 1, cells := 0, slots := 0, locals := 21 }) D (mw ki g) (mty ki) u sz [.ref (g 0), .int v] (fun r u' => r = M_val u v ∧ u' = u) := by
  refine g_ofd (cc := cX1_value) (maxL := 2) (ret := some .double) (own := RX1) (by decide) rfl rfl ?_
  intro p e s m below meth c A hx hb hr hlocks hml hts hown hK hD hA H locs hP hS
  have hl := lv_entry ([.ref (g 0), .int v]) (n := 2) (Nat.le_of_ble_eq_true rfl)
  rw [lg_entry_eq]
  generalize (lg_sl ([.ref (g 0), .int v]) ++ List.replicate (2 - (lg_sl ([.ref (g 0), .int v])).length) Slot.unset).toArray = ls at hl ⊢
  have hl : lv_has ls 2 [(0, .ref (g 0)), (1, .int v)] := hl
  have hf_27 := hts (.fieldLink RX1 27 "StepGraphModel" "values" "[D") (by decide +kernel)
  have hf_30 := hts (.fieldLink RX1 30 "StepGraphModel" "known" "[Z") (by decide +kernel)
  have hf_52 := hts (.fieldLink RX1 52 "StepGraphModel" "begun" "Z") (by decide +kernel)
  have hk_106 := hts (.constantDouble RX1 106 (13830554455654793216)) (by decide +kernel)
  have hin : ∀ w ∈ wsX10, w ∈ wsX1_value := by decide +kernel
  refine lv_aload_n hx hb dX1_value_0 rfl (lv_at hl 0 rfl) ?_
  refine m_get (u := u) hx hb hts hin hown hK hP 6 (by decide) rfl hf_52 (.int (m_bg u)) rfl dX1_value_1 ?_
  refine lv_if_eq (tgt := 33) hx hb dX1_value_4 (by decide) (fun c1 => ?_) (fun c1 => ?_)
  · refine lv_ldc2d hx hb hown hk_106 dX1_value_33 ?_
    exact W.dret (v := NN) hx hb hr (fun t ht hW => ⟨⟨NN, u, rfl, ⟨by simp only [M_val, if_pos c1, tn, Bool.false_eq_true, ↓reduceIte] <;> rfl, rfl⟩, by rw [ht]; exact hP, va_K.moved hW.alike hK, hD⟩, hS.F ht⟩) hS.2.2 dX1_value_36
  · refine lv_aload_n hx hb dX1_value_7 rfl (lv_at hl 0 rfl) ?_
    refine lv_iload_n hx hb dX1_value_8 rfl (lv_at hl 1 rfl) ?_
    refine g_calli (w := mw ki g) (u := u) (As := [.int v]) (rest := []) ⟨hx, hb, hml, hown, hts⟩ (t_X1_isVertex l D ki g (u) H.size v ) (cwV 1 hts gX1_value_X1_isVertex rfl rfl rfl (by decide +kernel) ⟨Nat.le_of_ble_eq_true rfl, Nat.le_of_ble_eq_true rfl⟩) hK hP hD hS hA rfl rfl (mw_0 ki g (u)) rfl hl.1 rfl (Nat.le_of_ble_eq_true rfl) dX1_value_9 ⟨Nat.zero_le _, Nat.zero_le _⟩ (fun r2 u' H locs hw hP hD hS => ?_)
    obtain ⟨rfl, rfl⟩ := hw
    have hP : va_P D vwCl (mw ki g (u)) H := hP
    have hD : va_D A (mw ki g (u)) := hD
    refine W.eq (g2 := F0 m 12 ls [.int (b2 (C_isV (m_n u) v))]) rfl ?_
    refine lv_if_eq (tgt := 33) hx hb dX1_value_12 (by decide) (fun c3 => ?_) (fun c3 => ?_)
    · have c3 := b2_0 c3
      refine lv_ldc2d hx hb hown hk_106 dX1_value_33 ?_
      exact W.dret (v := NN) hx hb hr (fun t ht hW => ⟨⟨NN, u, rfl, ⟨by simp only [M_val, if_neg c1, if_neg c3, tn, Bool.false_eq_true, ↓reduceIte] <;> rfl, rfl⟩, by rw [ht]; exact hP, va_K.moved hW.alike hK, hD⟩, hS.F ht⟩) hS.2.2 dX1_value_36
    · have c3 := b2_1 c3
      obtain ⟨j, hj, rfl⟩ := isV_of (n := n) (by omega) (by rw [← hn]; exact c3)
      have hjt : (nI j).toNatClampNeg = j := nI_clamp (by omega)
      have hl : lv_has ls 2 [(0, .ref (g 0)), (1, .int (nI j))] := hl
      refine lv_aload_n hx hb dX1_value_15 rfl (lv_at hl 0 rfl) ?_
      refine m_get (u := u) hx hb hts hin hown hK hP 14 (by decide) rfl hf_30 (.ref (g 5)) rfl dX1_value_16 ?_
      refine lv_iload_n hx hb dX1_value_19 rfl (lv_at hl 1 rfl) ?_
      refine k_zald hx hb hK hP 5 2 (f := m_kn u) (n := 12) rfl rfl (j := j) (by omega) (by decide) dX1_value_20 ?_
      refine lv_if_eq (tgt := 33) hx hb dX1_value_21 (by decide) (fun c4 => ?_) (fun c4 => ?_)
      · refine lv_ldc2d hx hb hown hk_106 dX1_value_33 ?_
        exact W.dret (v := NN) hx hb hr (fun t ht hW => ⟨⟨NN, u, rfl, ⟨by simp only [M_val, if_neg c1, if_pos c3, if_pos c4, tn, hjt, Bool.false_eq_true, ↓reduceIte] <;> rfl, rfl⟩, by rw [ht]; exact hP, va_K.moved hW.alike hK, hD⟩, hS.F ht⟩) hS.2.2 dX1_value_36
      · refine lv_aload_n hx hb dX1_value_24 rfl (lv_at hl 0 rfl) ?_
        refine m_get (u := u) hx hb hts hin hown hK hP 13 (by decide) rfl hf_27 (.ref (g 4)) rfl dX1_value_25 ?_
        refine lv_iload_n hx hb dX1_value_28 rfl (lv_at hl 1 rfl) ?_
        refine k_dald hx hb hK hP 4 1 (f := m_va u) (n := 12) rfl rfl (j := j) (by omega) (by decide) dX1_value_29 ?_
        refine lv_goto (tgt := 36) hx hb dX1_value_30 (by decide) ?_
        exact W.dret (v := (m_va u) j) hx hb hr (fun t ht hW => ⟨⟨((m_va u) j), u, rfl, ⟨by simp only [M_val, if_neg c1, if_pos c3, if_neg c4, tn, hjt, Bool.false_eq_true, ↓reduceIte] <;> rfl, rfl⟩, by rw [ht]; exact hP, va_K.moved hW.alike hK, hD⟩, hS.F ht⟩) hS.2.2 dX1_value_36

set_option maxHeartbeats 4000000 in
set_option maxRecDepth 100000 in
/-- pending -/
theorem t_X1_pending (l : Launch) (D : va_G) (ki : Nat → ClassId) (g : Nat → Nat) (u : MS) (sz : Nat) (v q : Int32) (n k : Nat) (hn : m_n u = nI n) (hn12 : n ≤ 12) (hk : m_k u = nI k) (hk1 : 0 < k) (hk4 : k ≤ 4)  : gMd l yX1_pending wsX1_pending ({ frames := 1, cells := 0, slots := 0, locals := 21 }) D (mw ki g) (mty ki) u sz [.ref (g 0), .int v, .int q] (fun r u' => r = M_pend u v q ∧ u' = u) := by
  refine g_ofd (cc := cX1_pending) (maxL := 3) (ret := some .double) (own := RX1) (by decide) rfl rfl ?_
  intro p e s m below meth c A hx hb hr hlocks hml hts hown hK hD hA H locs hP hS
  have hl := lv_entry ([.ref (g 0), .int v, .int q]) (n := 3) (Nat.le_of_ble_eq_true rfl)
  rw [lg_entry_eq]
  generalize (lg_sl ([.ref (g 0), .int v, .int q]) ++ List.replicate (3 - (lg_sl ([.ref (g 0), .int v, .int q])).length) Slot.unset).toArray = ls at hl ⊢
  have hl : lv_has ls 3 [(0, .ref (g 0)), (1, .int v), (2, .int q)] := hl
  have hf_24 := hts (.fieldLink RX1 24 "StepGraphModel" "k" "I") (by decide +kernel)
  have hf_34 := hts (.fieldLink RX1 34 "StepGraphModel" "coming" "[D") (by decide +kernel)
  have hf_37 := hts (.fieldLink RX1 37 "StepGraphModel" "comes" "[Z") (by decide +kernel)
  have hk_106 := hts (.constantDouble RX1 106 (13830554455654793216)) (by decide +kernel)
  have hin : ∀ w ∈ wsX10, w ∈ wsX1_pending := by decide +kernel
  refine lv_aload_n hx hb dX1_pending_0 rfl (lv_at hl 0 rfl) ?_
  refine lv_iload_n hx hb dX1_pending_1 rfl (lv_at hl 1 rfl) ?_
  refine g_calli (w := mw ki g) (u := u) (As := [.int v]) (rest := []) ⟨hx, hb, hml, hown, hts⟩ (t_X1_isVertex l D ki g (u) H.size v ) (cwV 1 hts gX1_pending_X1_isVertex rfl rfl rfl (by decide +kernel) ⟨Nat.le_of_ble_eq_true rfl, Nat.le_of_ble_eq_true rfl⟩) hK hP hD hS hA rfl rfl (mw_0 ki g (u)) rfl hl.1 rfl (Nat.le_of_ble_eq_true rfl) dX1_pending_2 ⟨Nat.zero_le _, Nat.zero_le _⟩ (fun r1 u' H locs hw hP hD hS => ?_)
  obtain ⟨rfl, rfl⟩ := hw
  have hP : va_P D vwCl (mw ki g (u)) H := hP
  have hD : va_D A (mw ki g (u)) := hD
  refine W.eq (g2 := F0 m 5 ls [.int (b2 (C_isV (m_n u) v))]) rfl ?_
  refine lv_if_eq (tgt := 46) hx hb dX1_pending_5 (by decide) (fun c2 => ?_) (fun c2 => ?_)
  · have c2 := b2_0 c2
    refine lv_ldc2d hx hb hown hk_106 dX1_pending_46 ?_
    exact W.dret (v := NN) hx hb hr (fun t ht hW => ⟨⟨NN, u, rfl, ⟨by simp only [M_pend, if_neg c2] <;> rfl, rfl⟩, by rw [ht]; exact hP, va_K.moved hW.alike hK, hD⟩, hS.F ht⟩) hS.2.2 dX1_pending_49
  · have c2 := b2_1 c2
    refine lv_iload_n hx hb dX1_pending_8 rfl (lv_at hl 2 rfl) ?_
    refine lv_if_lt (tgt := 46) hx hb dX1_pending_9 (by decide) (fun c3 => ?_) (fun c3 => ?_)
    · refine lv_ldc2d hx hb hown hk_106 dX1_pending_46 ?_
      have hq : ¬ C_isV (m_k u) q = true := by simp only [C_isV, if_pos c3, Bool.false_eq_true, not_false_eq_true]
      exact W.dret (v := NN) hx hb hr (fun t ht hW => ⟨⟨NN, u, rfl, ⟨by simp only [M_pend, if_pos c2, if_neg hq] <;> rfl, rfl⟩, by rw [ht]; exact hP, va_K.moved hW.alike hK, hD⟩, hS.F ht⟩) hS.2.2 dX1_pending_49
    · refine lv_iload_n hx hb dX1_pending_12 rfl (lv_at hl 2 rfl) ?_
      refine lv_aload_n hx hb dX1_pending_13 rfl (lv_at hl 0 rfl) ?_
      refine m_get (u := u) hx hb hts hin hown hK hP 5 (by decide) rfl hf_24 (.int (m_k u)) rfl dX1_pending_14 ?_
      refine lv_icmp_ge (tgt := 46) hx hb dX1_pending_17 (by decide) (fun c4 => ?_) (fun c4 => ?_)
      · refine lv_ldc2d hx hb hown hk_106 dX1_pending_46 ?_
        have hq : ¬ C_isV (m_k u) q = true := by simp only [C_isV, if_neg c3, if_pos c4, Bool.false_eq_true, not_false_eq_true]
        exact W.dret (v := NN) hx hb hr (fun t ht hW => ⟨⟨NN, u, rfl, ⟨by simp only [M_pend, if_pos c2, if_neg hq] <;> rfl, rfl⟩, by rw [ht]; exact hP, va_K.moved hW.alike hK, hD⟩, hS.F ht⟩) hS.2.2 dX1_pending_49
      · have hq : C_isV (m_k u) q = true := by simp only [C_isV, if_neg c3, if_neg c4]
        obtain ⟨j, hj, rfl⟩ := isV_of (n := n) (by omega) (by rw [← hn]; exact c2)
        obtain ⟨i, hi, rfl⟩ := isV_of (n := k) (by omega) (by rw [← hk]; exact hq)
        have hjt : (nI j).toNatClampNeg = j := nI_clamp (by omega)
        have hit : (nI i).toNatClampNeg = i := nI_clamp (by omega)
        have hl : lv_has ls 3 [(0, .ref (g 0)), (1, .int (nI j)), (2, .int (nI i))] := hl
        refine lv_aload_n hx hb dX1_pending_20 rfl (lv_at hl 0 rfl) ?_
        refine m_get (u := u) hx hb hts hin hown hK hP 16 (by decide) rfl hf_37 (.ref (g 7)) rfl dX1_pending_21 ?_
        refine lv_iconst (v := 4) hx hb dX1_pending_24 (by decide) ?_
        refine lv_iload_n hx hb dX1_pending_25 rfl (lv_at hl 1 rfl) ?_
        refine lv_imul hx hb dX1_pending_26 ?_
        refine lv_iload_n hx hb dX1_pending_27 rfl (lv_at hl 2 rfl) ?_
        refine lv_iadd hx hb dX1_pending_28 ?_
        rw [at4']
        refine k_zald hx hb hK hP 7 2 (f := m_cs u) (n := 48) rfl rfl (j := 4 * j + i) (by omega) (by decide) dX1_pending_29 ?_
        refine lv_if_eq (tgt := 46) hx hb dX1_pending_30 (by decide) (fun c5 => ?_) (fun c5 => ?_)
        · refine lv_ldc2d hx hb hown hk_106 dX1_pending_46 ?_
          exact W.dret (v := NN) hx hb hr (fun t ht hW => ⟨⟨NN, u, rfl, ⟨by simp only [M_pend, if_pos c2, if_pos hq, if_pos c5, tn, hjt, hit, Bool.false_eq_true, ↓reduceIte] <;> rfl, rfl⟩, by rw [ht]; exact hP, va_K.moved hW.alike hK, hD⟩, hS.F ht⟩) hS.2.2 dX1_pending_49
        · refine lv_aload_n hx hb dX1_pending_33 rfl (lv_at hl 0 rfl) ?_
          refine m_get (u := u) hx hb hts hin hown hK hP 15 (by decide) rfl hf_34 (.ref (g 6)) rfl dX1_pending_34 ?_
          refine lv_iconst (v := 4) hx hb dX1_pending_37 (by decide) ?_
          refine lv_iload_n hx hb dX1_pending_38 rfl (lv_at hl 1 rfl) ?_
          refine lv_imul hx hb dX1_pending_39 ?_
          refine lv_iload_n hx hb dX1_pending_40 rfl (lv_at hl 2 rfl) ?_
          refine lv_iadd hx hb dX1_pending_41 ?_
          rw [at4']
          refine k_dald hx hb hK hP 6 1 (f := m_cm u) (n := 48) rfl rfl (j := 4 * j + i) (by omega) (by decide) dX1_pending_42 ?_
          refine lv_goto (tgt := 49) hx hb dX1_pending_43 (by decide) ?_
          exact W.dret (v := (m_cm u) (4 * j + i)) hx hb hr (fun t ht hW => ⟨⟨((m_cm u) (4 * j + i)), u, rfl, ⟨by simp only [M_pend, if_pos c2, if_pos hq, if_neg c5, tn, hjt, hit, Bool.false_eq_true, ↓reduceIte] <;> rfl, rfl⟩, by rw [ht]; exact hP, va_K.moved hW.alike hK, hD⟩, hS.F ht⟩) hS.2.2 dX1_pending_49

set_option maxHeartbeats 4000000 in
set_option maxRecDepth 100000 in
/-- degree -/
theorem t_X1_degree (l : Launch) (D : va_G) (ki : Nat → ClassId) (g : Nat → Nat) (u : MS) (sz : Nat) (v : Int32) (ec : Nat) (he : m_e u = nI ec) (he30 : ec ≤ 30)  : gMi l yX1_degree wsX1_degree ({ frames := 1, cells := 0, slots := 0, locals := 21 }) D (mw ki g) (mty ki) u sz [.ref (g 0), .int v] (fun r u' => r = (if C_isV (m_n u) v = true then M_deg v ec (m_fr u) (m_to u) else -1) ∧ u' = u) := by
  refine g_ofi (cc := cX1_degree) (maxL := 4) (ret := some .int) (own := RX1) (by decide) rfl rfl ?_
  intro p e s m below meth c A hx hb hr hlocks hml hts hown hK hD hA H locs hP hS
  have hl := lv_entry ([.ref (g 0), .int v]) (n := 4) (Nat.le_of_ble_eq_true rfl)
  rw [lg_entry_eq]
  generalize (lg_sl ([.ref (g 0), .int v]) ++ List.replicate (4 - (lg_sl ([.ref (g 0), .int v])).length) Slot.unset).toArray = ls at hl ⊢
  have hl : lv_has ls 4 [(0, .ref (g 0)), (1, .int v)] := hl
  have hf_7 := hts (.fieldLink RX1 7 "StepGraphModel" "froms" "[I") (by decide +kernel)
  have hf_13 := hts (.fieldLink RX1 13 "StepGraphModel" "tos" "[I") (by decide +kernel)
  have hf_68 := hts (.fieldLink RX1 68 "StepGraphModel" "edges" "I") (by decide +kernel)
  have hin : ∀ w ∈ wsX10, w ∈ wsX1_degree := by decide +kernel
  refine lv_aload_n hx hb dX1_degree_0 rfl (lv_at hl 0 rfl) ?_
  refine lv_iload_n hx hb dX1_degree_1 rfl (lv_at hl 1 rfl) ?_
  refine g_calli (w := mw ki g) (u := u) (As := [.int v]) (rest := []) ⟨hx, hb, hml, hown, hts⟩ (t_X1_isVertex l D ki g (u) H.size v ) (cwV 1 hts gX1_degree_X1_isVertex rfl rfl rfl (by decide +kernel) ⟨Nat.le_of_ble_eq_true rfl, Nat.le_of_ble_eq_true rfl⟩) hK hP hD hS hA rfl rfl (mw_0 ki g (u)) rfl hl.1 rfl (Nat.le_of_ble_eq_true rfl) dX1_degree_2 ⟨Nat.zero_le _, Nat.zero_le _⟩ (fun r1 u' H locs hw hP hD hS => ?_)
  obtain ⟨rfl, rfl⟩ := hw
  have hP : va_P D vwCl (mw ki g (u)) H := hP
  have hD : va_D A (mw ki g (u)) := hD
  refine W.eq (g2 := F0 m 5 ls [.int (b2 (C_isV (m_n u) v))]) rfl ?_
  refine lv_if_ne (tgt := 10) hx hb dX1_degree_5 (by decide) (fun c2 => ?_) (fun c2 => ?_)
  · have c2 := b2_1 c2
    refine lv_iconst (v := 0) hx hb dX1_degree_10 (by decide) ?_
    refine lv_istore_n (lv' := [(2, .int 0), (0, .ref (g 0)), (1, .int v)]) hx hb dX1_degree_11 rfl hl (by decide) rfl (fun ls hl => ?_)
    refine lv_iconst (v := 0) hx hb dX1_degree_12 (by decide) ?_
    refine lv_istore_n (lv' := [(3, .int 0), (2, .int 0), (0, .ref (g 0)), (1, .int v)]) hx hb dX1_degree_13 rfl hl (by decide) rfl (fun ls hl => ?_)
    have loop : ∀ (r i : Nat), i + r = ec → ∀ (H : Heap) (locs : List Loc) (ls : Array Slot), va_P D vwCl (mw ki g (u)) H → va_D A (mw ki g (u)) → va_S A s.heap H locs → lv_has ls 4 [(3, .int (nI (i))), (2, .int (fo (fun i x => if m_fr u i = v then x + 1 else if m_to u i = v then x + 1 else x) (i) 0)), (0, .ref (g 0)), (1, .int v)] → W p l e (headSpec wsX1_degree { frames := 1, cells := 0, slots := 0, locals := 21 }).room s m ([.ref (g 0), .int v] : List Value).toArray below meth c H locs 0 0 (MQ below (va_Qi (fun r u' => r = (if C_isV (m_n u) v = true then M_deg v ec (m_fr u) (m_to u) else -1) ∧ u' = u) (gQ D (mw ki g) (mty ki) A) A) ([.ref (g 0), .int v] : List Value).toArray s 0 0 A) (F0 m 14 ls []) := by
      intro r
      induction r with
      | zero =>
        intro i hii H locs ls hP hD hS hl 
        have hii : ec = i := by omega
        subst hii
        refine lv_iload_n hx hb dX1_degree_14 rfl (lv_at hl 0 rfl) ?_
        refine lv_aload_n hx hb dX1_degree_15 rfl (lv_at hl 2 rfl) ?_
        refine m_get (u := u) hx hb hts hin hown hK hP 4 (by decide) rfl hf_68 (.int (nI ec)) (congrArg (fun z => some (Value.int z)) he) dX1_degree_16 ?_
        refine lv_icmp_ge (tgt := 52) hx hb dX1_degree_19 (by decide) (fun c3 => ?_) (fun c3 => absurd (Int32.le_refl _) c3)
        refine lv_iload_n hx hb dX1_degree_52 rfl (lv_at hl 1 rfl) ?_
        exact W.iret (v := fo (fun i x => if m_fr u i = v then x + 1 else if m_to u i = v then x + 1 else x) (ec) 0) hx hb hr (fun t ht hW => ⟨⟨(fo (fun i x => if m_fr u i = v then x + 1 else if m_to u i = v then x + 1 else x) (ec) 0), u, rfl, ⟨by simp only [M_deg, if_pos c2] <;> rfl, rfl⟩, by rw [ht]; exact hP, va_K.moved hW.alike hK, hD⟩, hS.F ht⟩) hS.2.2 dX1_degree_53
      | succ r ih =>
        intro i hii H locs ls hP hD hS hl 
        refine lv_iload_n hx hb dX1_degree_14 rfl (lv_at hl 0 rfl) ?_
        refine lv_aload_n hx hb dX1_degree_15 rfl (lv_at hl 2 rfl) ?_
        refine m_get (u := u) hx hb hts hin hown hK hP 4 (by decide) rfl hf_68 (.int (nI ec)) (congrArg (fun z => some (Value.int z)) he) dX1_degree_16 ?_
        refine lv_icmp_ge (tgt := 52) hx hb dX1_degree_19 (by decide) (fun c4 => absurd c4 (nI_ge (b := ec) (by omega) (by omega))) (fun c4 => ?_)
        refine lv_aload_n hx hb dX1_degree_22 rfl (lv_at hl 2 rfl) ?_
        refine m_get (u := u) hx hb hts hin hown hK hP 0 (by decide) rfl hf_7 (.ref (g 1)) rfl dX1_degree_23 ?_
        refine lv_iload_n hx hb dX1_degree_26 rfl (lv_at hl 0 rfl) ?_
        refine k_iald hx hb hK hP 1 0 (f := m_fr u) (n := 30) rfl rfl (j := i) (by omega) (by decide) dX1_degree_27 ?_
        refine lv_iload_n hx hb dX1_degree_28 rfl (lv_at hl 3 rfl) ?_
        refine lv_icmp_eq (tgt := 42) hx hb dX1_degree_29 (by decide) (fun c5 => ?_) (fun c5 => ?_)
        · refine lv_iload_n hx hb dX1_degree_42 rfl (lv_at hl 1 rfl) ?_
          refine lv_iconst (v := 1) hx hb dX1_degree_43 (by decide) ?_
          refine lv_iadd hx hb dX1_degree_44 ?_
          refine lv_istore_n (lv' := [(2, .int ((fo (fun i x => if m_fr u i = v then x + 1 else if m_to u i = v then x + 1 else x) (i) 0) + 1)), (3, .int (nI (i))), (0, .ref (g 0)), (1, .int v)]) hx hb dX1_degree_45 rfl hl (by decide) rfl (fun ls hl => ?_)
          refine lv_iinc (v := nI (i + 1)) (lv' := [(3, .int (nI (i + 1))), (2, .int ((fo (fun i x => if m_fr u i = v then x + 1 else if m_to u i = v then x + 1 else x) (i) 0) + 1)), (0, .ref (g 0)), (1, .int v)]) hx hb dX1_degree_46 hl (k := 1) rfl (nI_1 i) (by decide) rfl (fun ls hl => ?_)
          refine lv_goto (tgt := 14) hx hb dX1_degree_49 (by decide) ?_
          have hL : fo (fun i x => if m_fr u i = v then x + 1 else if m_to u i = v then x + 1 else x) (i + 1) 0 = (fo (fun i x => if m_fr u i = v then x + 1 else if m_to u i = v then x + 1 else x) (i) 0) + 1 := by show (if m_fr u i = v then _ else _) = _; simp only [if_pos c2, if_neg c4, if_pos c5]
          exact ih (i + 1) (by omega) _ _ _ hP hD hS (by rw [hL]; exact lv_sub hl [0, 1, 2, 3] rfl) 
        · refine lv_aload_n hx hb dX1_degree_32 rfl (lv_at hl 2 rfl) ?_
          refine m_get (u := u) hx hb hts hin hown hK hP 1 (by decide) rfl hf_13 (.ref (g 2)) rfl dX1_degree_33 ?_
          refine lv_iload_n hx hb dX1_degree_36 rfl (lv_at hl 0 rfl) ?_
          refine k_iald hx hb hK hP 2 0 (f := m_to u) (n := 30) rfl rfl (j := i) (by omega) (by decide) dX1_degree_37 ?_
          refine lv_iload_n hx hb dX1_degree_38 rfl (lv_at hl 3 rfl) ?_
          refine lv_icmp_ne (tgt := 46) hx hb dX1_degree_39 (by decide) (fun c6 => ?_) (fun c6 => ?_)
          · refine lv_iinc (v := nI (i + 1)) (lv' := [(3, .int (nI (i + 1))), (2, .int (fo (fun i x => if m_fr u i = v then x + 1 else if m_to u i = v then x + 1 else x) (i) 0)), (0, .ref (g 0)), (1, .int v)]) hx hb dX1_degree_46 hl (k := 0) rfl (nI_1 i) (by decide) rfl (fun ls hl => ?_)
            refine lv_goto (tgt := 14) hx hb dX1_degree_49 (by decide) ?_
            have hL : fo (fun i x => if m_fr u i = v then x + 1 else if m_to u i = v then x + 1 else x) (i + 1) 0 = fo (fun i x => if m_fr u i = v then x + 1 else if m_to u i = v then x + 1 else x) (i) 0 := by show (if m_fr u i = v then _ else _) = _; simp only [if_pos c2, if_neg c4, if_neg c5, if_neg c6]
            exact ih (i + 1) (by omega) _ _ _ hP hD hS (by rw [hL]; exact lv_sub hl [0, 1, 2, 3] rfl) 
          · refine lv_iload_n hx hb dX1_degree_42 rfl (lv_at hl 1 rfl) ?_
            refine lv_iconst (v := 1) hx hb dX1_degree_43 (by decide) ?_
            refine lv_iadd hx hb dX1_degree_44 ?_
            refine lv_istore_n (lv' := [(2, .int ((fo (fun i x => if m_fr u i = v then x + 1 else if m_to u i = v then x + 1 else x) (i) 0) + 1)), (3, .int (nI (i))), (0, .ref (g 0)), (1, .int v)]) hx hb dX1_degree_45 rfl hl (by decide) rfl (fun ls hl => ?_)
            refine lv_iinc (v := nI (i + 1)) (lv' := [(3, .int (nI (i + 1))), (2, .int ((fo (fun i x => if m_fr u i = v then x + 1 else if m_to u i = v then x + 1 else x) (i) 0) + 1)), (0, .ref (g 0)), (1, .int v)]) hx hb dX1_degree_46 hl (k := 1) rfl (nI_1 i) (by decide) rfl (fun ls hl => ?_)
            refine lv_goto (tgt := 14) hx hb dX1_degree_49 (by decide) ?_
            have hL : fo (fun i x => if m_fr u i = v then x + 1 else if m_to u i = v then x + 1 else x) (i + 1) 0 = (fo (fun i x => if m_fr u i = v then x + 1 else if m_to u i = v then x + 1 else x) (i) 0) + 1 := by show (if m_fr u i = v then _ else _) = _; simp only [if_pos c2, if_neg c4, if_neg c5, if_pos c6]
            exact ih (i + 1) (by omega) _ _ _ hP hD hS (by rw [hL]; exact lv_sub hl [0, 1, 2, 3] rfl) 
    exact loop (ec) 0 (by omega) H locs ls hP hD hS (lv_sub hl [0, 1, 2, 3] rfl) 
  · have c2 := b2_0 c2
    refine lv_iconst (v := (-1)) hx hb dX1_degree_8 (by decide) ?_
    exact W.iret (v := -1) hx hb hr (fun t ht hW => ⟨⟨(-1), u, rfl, ⟨by simp only [M_deg, if_neg c2] <;> rfl, rfl⟩, by rw [ht]; exact hP, va_K.moved hW.alike hK, hD⟩, hS.F ht⟩) hS.2.2 dX1_degree_9
