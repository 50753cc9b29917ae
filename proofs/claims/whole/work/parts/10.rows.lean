/-! ROWS OF OUR OWN: arrays at places given by a Nat; calls of methods on the same world. -/
section KR
variable {p : Program} {l : Launch} {e : Env} {R : Room} {s : State} {m : MethodId} {args : Array Value} {below : List Frame} {meth : Method} {c : Code} {H : Heap} {locs : List Loc} {cells slots : Nat} {Q : State → Prop}
variable {cc : ByteArray} {pc : Nat} {ls : Array Slot} {rest : List Value} {D : va_G} {cl : List vw_C} {A : Nat → Prop} {a : Nat} {tys : List (ClassId × FieldType)} {ws : va_W} {H0 : Heap}
theorem k_iald (hexec : p.tables.exec = Jvm.exec) (hb : c.code = cc) (hK : va_K D cl tys s) (hP : va_P D cl ws H) (q0 t0 : Nat) {cA : ClassId} {n : Nat} {f : Nat → Int32} (ha : ws[q0]? = some (a, .inl (cA, n, .inl f))) (ht : tys[t0]? = some (cA, .int)) {j : Nat} (hj : j < n) (hn : n < 2 ^ 31) (hdg : decode cc pc = .ok (.iaload, 1))
    (kk : W p l e R s m args below meth c H locs cells slots Q (F0 m (pc + 1) ls (.int (f j) :: rest))) : W p l e R s m args below meth c H locs cells slots Q (F0 m pc ls (.int (nI j) :: .ref a :: rest)) := by
  refine va_iald hexec hb hK hP q0 t0 ha ht (vp_in_nI hj hn) hdg ?_
  rw [nI_clamp (show j < 2 ^ 31 by omega)]
  exact kk
theorem k_zald (hexec : p.tables.exec = Jvm.exec) (hb : c.code = cc) (hK : va_K D cl tys s) (hP : va_P D cl ws H) (q0 t0 : Nat) {cA : ClassId} {n : Nat} {f : Nat → Int32} (ha : ws[q0]? = some (a, .inl (cA, n, .inl f))) (ht : tys[t0]? = some (cA, .boolean)) {j : Nat} (hj : j < n) (hn : n < 2 ^ 31) (hdg : decode cc pc = .ok (.baload, 1))
    (kk : W p l e R s m args below meth c H locs cells slots Q (F0 m (pc + 1) ls (.int (f j) :: rest))) : W p l e R s m args below meth c H locs cells slots Q (F0 m pc ls (.int (nI j) :: .ref a :: rest)) := by
  refine va_zald hexec hb hK hP q0 t0 ha ht (vp_in_nI hj hn) hdg ?_
  rw [nI_clamp (show j < 2 ^ 31 by omega)]
  exact kk
theorem k_dald (hexec : p.tables.exec = Jvm.exec) (hb : c.code = cc) (hK : va_K D cl tys s) (hP : va_P D cl ws H) (q0 t0 : Nat) {cA : ClassId} {n : Nat} {f : Nat → UInt64} (ha : ws[q0]? = some (a, .inl (cA, n, .inr (.inr (.inr (.inl f)))))) (ht : tys[t0]? = some (cA, .double)) {j : Nat} (hj : j < n) (hn : n < 2 ^ 31) (hdg : decode cc pc = .ok (.daload, 1))
    (kk : W p l e R s m args below meth c H locs cells slots Q (F0 m (pc + 1) ls (.double (f j) :: rest))) : W p l e R s m args below meth c H locs cells slots Q (F0 m pc ls (.int (nI j) :: .ref a :: rest)) := by
  refine va_dald hexec hb hK hP q0 t0 ha ht (vp_in_nI hj hn) hdg ?_
  rw [nI_clamp (show j < 2 ^ 31 by omega)]
  exact kk
theorem k_iast (hexec : p.tables.exec = Jvm.exec) (hb : c.code = cc) (hK : va_K D cl tys s) (hP : va_P D cl ws H) (hD : va_D A ws) (hS : va_S A H0 H locs) (q0 t0 : Nat) {cA : ClassId} {n : Nat} {f : Nat → Int32} (ha : ws[q0]? = some (a, .inl (cA, n, .inl f))) (ht : tys[t0]? = some (cA, .int)) {j : Nat} {x : Int32} (hj : j < n) (hn : n < 2 ^ 31) (hdg : decode cc pc = .ok (.iastore, 1))
    (kk : ∀ (H1 : Heap) (locs1 : List Loc), va_P D cl (ws.set q0 (a, .inl (cA, n, .inl (upd f j x)))) H1 → va_D A (ws.set q0 (a, .inl (cA, n, .inl (upd f j x)))) → va_S A H0 H1 locs1 → W p l e R s m args below meth c H1 locs1 cells slots Q (F0 m (pc + 1) ls rest)) : W p l e R s m args below meth c H locs cells slots Q (F0 m pc ls (.int x :: .int (nI j) :: .ref a :: rest)) := by
  refine va_iast hexec hb hK hP hD hS q0 t0 ha ht (vp_in_nI hj hn) hdg (fun H1 locs1 h1 h2 h3 => ?_)
  rw [nI_clamp (show j < 2 ^ 31 by omega)] at h1 h2
  exact kk H1 locs1 h1 h2 h3
theorem k_zast (hexec : p.tables.exec = Jvm.exec) (hb : c.code = cc) (hK : va_K D cl tys s) (hP : va_P D cl ws H) (hD : va_D A ws) (hS : va_S A H0 H locs) (q0 t0 : Nat) {cA : ClassId} {n : Nat} {f : Nat → Int32} (ha : ws[q0]? = some (a, .inl (cA, n, .inl f))) (ht : tys[t0]? = some (cA, .boolean)) {j : Nat} {x : Int32} (hj : j < n) (hn : n < 2 ^ 31) (hx : vp_nar .boolean x = x) (hdg : decode cc pc = .ok (.bastore, 1))
    (kk : ∀ (H1 : Heap) (locs1 : List Loc), va_P D cl (ws.set q0 (a, .inl (cA, n, .inl (upd f j x)))) H1 → va_D A (ws.set q0 (a, .inl (cA, n, .inl (upd f j x)))) → va_S A H0 H1 locs1 → W p l e R s m args below meth c H1 locs1 cells slots Q (F0 m (pc + 1) ls rest)) : W p l e R s m args below meth c H locs cells slots Q (F0 m pc ls (.int x :: .int (nI j) :: .ref a :: rest)) := by
  refine va_zast hexec hb hK hP hD hS q0 t0 ha ht (vp_in_nI hj hn) hdg (fun H1 locs1 h1 h2 h3 => ?_)
  rw [nI_clamp (show j < 2 ^ 31 by omega), hx] at h1 h2
  exact kk H1 locs1 h1 h2 h3
theorem k_dast (hexec : p.tables.exec = Jvm.exec) (hb : c.code = cc) (hK : va_K D cl tys s) (hP : va_P D cl ws H) (hD : va_D A ws) (hS : va_S A H0 H locs) (q0 t0 : Nat) {cA : ClassId} {n : Nat} {f : Nat → UInt64} (ha : ws[q0]? = some (a, .inl (cA, n, .inr (.inr (.inr (.inl f)))))) (ht : tys[t0]? = some (cA, .double)) {j : Nat} {x : UInt64} (hj : j < n) (hn : n < 2 ^ 31) (hdg : decode cc pc = .ok (.dastore, 1))
    (kk : ∀ (H1 : Heap) (locs1 : List Loc), va_P D cl (ws.set q0 (a, .inl (cA, n, .inr (.inr (.inr (.inl (vf_upd f j x))))))) H1 → va_D A (ws.set q0 (a, .inl (cA, n, .inr (.inr (.inr (.inl (vf_upd f j x))))))) → va_S A H0 H1 locs1 → W p l e R s m args below meth c H1 locs1 cells slots Q (F0 m (pc + 1) ls rest)) : W p l e R s m args below meth c H locs cells slots Q (F0 m pc ls (.double x :: .int (nI j) :: .ref a :: rest)) := by
  refine va_dast hexec hb hK hP hD hS q0 t0 ha ht (vp_in_nI hj hn) hdg (fun H1 locs1 h1 h2 h3 => ?_)
  rw [nI_clamp (show j < 2 ^ 31 by omega)] at h1 h2
  exact kk H1 locs1 h1 h2 h3
/-- a row out of an array of arrays -/
theorem k_aald (hexec : p.tables.exec = Jvm.exec) (hb : c.code = cc) (hK : va_K D cl tys s) (hP : va_P D cl ws H) (q0 t0 : Nat) {cA : ClassId} {ty : FieldType} {n : Nat} {f : Nat → Option Nat} (ha : ws[q0]? = some (a, .inl (cA, n, .inr (.inr (.inr (.inr f)))))) (ht : tys[t0]? = some (cA, .array ty)) {j y : Nat} (hj : j < n) (hn : n < 2 ^ 31) (hy : f j = some y) (hdg : decode cc pc = .ok (.aaload, 1))
    (kk : W p l e R s m args below meth c H locs cells slots Q (F0 m (pc + 1) ls (.ref y :: rest))) : W p l e R s m args below meth c H locs cells slots Q (F0 m pc ls (.int (nI j) :: .ref a :: rest)) := by
  have hc : (nI j).toNatClampNeg = j := nI_clamp (show j < 2 ^ 31 by omega)
  have hin := vp_in_nI hj hn
  exact W.aald (v := .ref y) (ty := .array ty) hexec hb (hP q0 _ ha) ((hK.2 t0 _ ht).1 n (fun j => va_rf (f j))) rfl (fun q => by cases q) (by show ¬ (nI j < 0 ∨ (arrV _ _ _).slots.size ≤ _); rw [arrV_size]; exact hin) (by show (arrV _ _ _).slots[_]? = _; rw [arrV_read _ _ (by rw [hc]; exact hj), hc]; show some (va_rf (f j)) = _; rw [hy]; rfl) rfl rfl hdg kk
end KR
/-- a method's start: its world w u, its tables' words, its size -/
def gP {S : Type} (D : va_G) (w : S → va_W) (tys : List (ClassId × FieldType)) (u : S) (sz : Nat) : State → Prop := fun U => U.heap.size = sz ∧ va_P D vwCl (w u) U.heap ∧ va_K D vwCl tys U ∧ va_D (fun _ => True) (w u)
/-- .. and its end -/
def gQ {S : Type} (D : va_G) (w : S → va_W) (tys : List (ClassId × FieldType)) (A : Nat → Prop) : S → State → Prop := fun u t => va_P D vwCl (w u) t.heap ∧ va_K D vwCl tys t ∧ va_D A (w u)
abbrev gMi {S : Type} (l : Launch) (y : MethodName) (ws : List Cond) (rm : Room) (D : va_G) (w : S → va_W) (tys : List (ClassId × FieldType)) (u : S) (sz : Nat) (av : List Value) (post : Int32 → S → Prop) : Prop := Met l y ws rm (va_Pc av (gP D w tys u sz)) (va_Qi post (gQ D w tys (va_A (w u) sz)) (va_A (w u) sz)) 0 0 (va_A (w u) sz)
abbrev gMd {S : Type} (l : Launch) (y : MethodName) (ws : List Cond) (rm : Room) (D : va_G) (w : S → va_W) (tys : List (ClassId × FieldType)) (u : S) (sz : Nat) (av : List Value) (post : UInt64 → S → Prop) : Prop := Met l y ws rm (va_Pc av (gP D w tys u sz)) (va_Qd post (gQ D w tys (va_A (w u) sz)) (va_A (w u) sz)) 0 0 (va_A (w u) sz)
abbrev gMv {S : Type} (l : Launch) (y : MethodName) (ws : List Cond) (rm : Room) (D : va_G) (w : S → va_W) (tys : List (ClassId × FieldType)) (u : S) (sz : Nat) (av : List Value) (post : S → Prop) : Prop := Met l y ws rm (va_Pc av (gP D w tys u sz)) (va_Qv post (gQ D w tys (va_A (w u) sz)) (va_A (w u) sz)) 0 0 (va_A (w u) sz)
theorem gP_blind {S : Type} {D : va_G} {w : S → va_W} {tys : List (ClassId × FieldType)} {u : S} {sz : Nat} {av : List Value} : FrameBlind (va_Pc av (gP D w tys u sz)) := by
  intro a U g mk q
  obtain ⟨q0, q1, qP, qK, qD⟩ := q
  exact ⟨q0, q1, qP, va_K.moved (u := U) (U := U.calling g mk a) (Vm.Alike.refl U.vm) qK, qD⟩
theorem va_free1 {A0 : Nat → Prop} {ws : va_W} {H0 H : Heap} {locs : List Loc} (hD : va_D A0 ws) (hS : va_S A0 H0 H locs) (hA : ∀ q, H0.size ≤ q → A0 q) : ∀ q, va_A ws H.size q → A0 q := by
  intro q h
  rcases h with ⟨k, e, hk⟩ | h
  · exact hD.2 k _ hk
  · exact hA q (Nat.le_trans hS.1 h)
section GC
variable {p : Program} {l : Launch} {e : Env} {R : Room} {s : State} {m : MethodId} {args : Array Value} {below : List Frame} {meth : Method} {c : Code} {H : Heap} {locs : List Loc} {cells slots : Nat} {Q : State → Prop}
variable {cc : ByteArray} {pc nL n index maxL : Nat} {ls : Array Slot} {rest st0 As : List Value} {D : va_G} {A : Nat → Prop} {tys : List (ClassId × FieldType)} {H0 : Heap} {y : MethodName} {bytes : ByteArray} {ret : Option FieldType} {ws Ts : List Cond} {rm : Room} {own C : String} {b ci : Nat} {fs : List Value} {q : vw_C}
theorem g_calli {S : Type} {w : S → va_W} {u : S} {post : Int32 → S → Prop} (hF : CallFix p m c cc nL s args Ts own) (hM : gMi l y ws rm D w tys u H.size (.ref b :: As) post) (cw : CallW R s args own C index y bytes maxL ret ws rm 0 0 n)
    (hK : va_K D vwCl tys s) (hP : va_P D vwCl (w u) H) (hD : va_D A (w u)) (hS : va_S A H0 H locs) (hA : ∀ q, H0.size ≤ q → A q) (hci : vwCl[ci]? = some q) (hq : q.1 = C) (h0 : (w u)[0]? = some (b, .inr (ci, fs))) (hn : As.length = n) (hsz : ls.size = nL) (hst : st0 = As.reverse ++ .ref b :: rest) (hW : (rest.map fun v => v.category).sum ≤ 8) (hdg : decode cc pc = .ok (.invokevirtual index, 3)) (hf : cells ≤ R.cells ∧ slots ≤ R.slots)
    (kk : ∀ (r : Int32) (u' : S) (H1 : Heap) (locs1 : List Loc), post r u' → va_P D vwCl (w u') H1 → va_D A (w u') → va_S A H0 H1 locs1 → W p l e R s m args below meth c H1 locs1 cells slots Q (F0 m (pc + 3) ls (.int r :: rest))) : W p l e R s m args below meth c H locs cells slots Q (F0 m pc ls st0) := by
  have hFc := va_free1 hD hS hA
  subst hq
  refine va_calli (va_runV (b := b) (As := As) (rest := rest) hF hM cw ⟨gP_blind, va_recv hK hP hci h0, fun U hU hWr => ⟨rfl, by rw [hU], by rw [hU]; exact hP, va_K.moved hWr.alike hK, hD.weaken (fun _ _ _ _ => trivial)⟩⟩ rfl hn hsz hst (lv_room hW) hdg hf) hS (fun q _ h => hFc q h) hFc (fun r u' t H1 locs1 ht hvm hw hB hz1 hk1 hS1 => ?_)
  obtain ⟨hP1, hK1, hD1⟩ := hB
  rw [ht] at hP1
  exact kk r u' H1 locs1 hw hP1 (hD1.weaken (fun k z _ hz => hFc _ hz)) hS1
theorem g_calld {S : Type} {w : S → va_W} {u : S} {post : UInt64 → S → Prop} (hF : CallFix p m c cc nL s args Ts own) (hM : gMd l y ws rm D w tys u H.size (.ref b :: As) post) (cw : CallW R s args own C index y bytes maxL ret ws rm 0 0 n)
    (hK : va_K D vwCl tys s) (hP : va_P D vwCl (w u) H) (hD : va_D A (w u)) (hS : va_S A H0 H locs) (hA : ∀ q, H0.size ≤ q → A q) (hci : vwCl[ci]? = some q) (hq : q.1 = C) (h0 : (w u)[0]? = some (b, .inr (ci, fs))) (hn : As.length = n) (hsz : ls.size = nL) (hst : st0 = As.reverse ++ .ref b :: rest) (hW : (rest.map fun v => v.category).sum ≤ 8) (hdg : decode cc pc = .ok (.invokevirtual index, 3)) (hf : cells ≤ R.cells ∧ slots ≤ R.slots)
    (kk : ∀ (r : UInt64) (u' : S) (H1 : Heap) (locs1 : List Loc), post r u' → va_P D vwCl (w u') H1 → va_D A (w u') → va_S A H0 H1 locs1 → W p l e R s m args below meth c H1 locs1 cells slots Q (F0 m (pc + 3) ls (.double r :: rest))) : W p l e R s m args below meth c H locs cells slots Q (F0 m pc ls st0) := by
  have hFc := va_free1 hD hS hA
  subst hq
  refine va_calld (va_runV (b := b) (As := As) (rest := rest) hF hM cw ⟨gP_blind, va_recv hK hP hci h0, fun U hU hWr => ⟨rfl, by rw [hU], by rw [hU]; exact hP, va_K.moved hWr.alike hK, hD.weaken (fun _ _ _ _ => trivial)⟩⟩ rfl hn hsz hst (lv_room hW) hdg hf) hS (fun q _ h => hFc q h) hFc (fun r u' t H1 locs1 ht hvm hw hB hz1 hk1 hS1 => ?_)
  obtain ⟨hP1, hK1, hD1⟩ := hB
  rw [ht] at hP1
  exact kk r u' H1 locs1 hw hP1 (hD1.weaken (fun k z _ hz => hFc _ hz)) hS1
theorem g_callv {S : Type} {w : S → va_W} {u : S} {post : S → Prop} (hF : CallFix p m c cc nL s args Ts own) (hM : gMv l y ws rm D w tys u H.size (.ref b :: As) post) (cw : CallW R s args own C index y bytes maxL ret ws rm 0 0 n)
    (hK : va_K D vwCl tys s) (hP : va_P D vwCl (w u) H) (hD : va_D A (w u)) (hS : va_S A H0 H locs) (hA : ∀ q, H0.size ≤ q → A q) (hci : vwCl[ci]? = some q) (hq : q.1 = C) (h0 : (w u)[0]? = some (b, .inr (ci, fs))) (hn : As.length = n) (hsz : ls.size = nL) (hst : st0 = As.reverse ++ .ref b :: rest) (hW : (rest.map fun v => v.category).sum ≤ 8) (hdg : decode cc pc = .ok (.invokevirtual index, 3)) (hf : cells ≤ R.cells ∧ slots ≤ R.slots)
    (kk : ∀ (u' : S) (H1 : Heap) (locs1 : List Loc), post u' → va_P D vwCl (w u') H1 → va_D A (w u') → va_S A H0 H1 locs1 → W p l e R s m args below meth c H1 locs1 cells slots Q (F0 m (pc + 3) ls rest)) : W p l e R s m args below meth c H locs cells slots Q (F0 m pc ls st0) := by
  have hFc := va_free1 hD hS hA
  subst hq
  refine va_callv (va_runV (b := b) (As := As) (rest := rest) hF hM cw ⟨gP_blind, va_recv hK hP hci h0, fun U hU hWr => ⟨rfl, by rw [hU], by rw [hU]; exact hP, va_K.moved hWr.alike hK, hD.weaken (fun _ _ _ _ => trivial)⟩⟩ rfl hn hsz hst (lv_room hW) hdg hf) hS (fun q _ h => hFc q h) hFc (fun u' t H1 locs1 ht hvm hw hB hz1 hk1 hS1 => ?_)
  obtain ⟨hP1, hK1, hD1⟩ := hB
  rw [ht] at hP1
  exact kk u' H1 locs1 hw hP1 (hD1.weaken (fun k z _ hz => hFc _ hz)) hS1
end GC
theorem g_ofi {S : Type} {l : Launch} {y : MethodName} {ws ws' : List Cond} {rm : Room} {D : va_G} {w : S → va_W} {tys : List (ClassId × FieldType)} {u : S} {sz : Nat} {av : List Value} {post : Int32 → S → Prop} {cc : ByteArray} {maxL : Nat} {ret : Option FieldType} {own : String} (hy : plainName y.cls = true) (hyc : y.cls = own) (hw : ws = Cond.code y cc maxL ret :: ws')
    (body : ∀ (p : Program) (e : Env) (s : State) (m : MethodId) (below : List Frame) (meth : Method) (c : Code) (A : Nat → Prop), p.tables.exec = Jvm.exec → c.code = cc → meth.sig.returnType = ret → meth.locks = false → c.maxLocals = maxL → (∀ w ∈ ws, w.before av.toArray s = true) → s.vm.findClass own = some m.cls → va_K D vwCl tys s → va_D A (w u) → (∀ q : Nat, s.heap.size ≤ q → A q) → ∀ (H : Heap) (locs : List Loc), va_P D vwCl (w u) H → va_S A s.heap H locs →
      W p l e (headSpec ws rm).room s m av.toArray below meth c H locs 0 0 (MQ below (va_Qi post (gQ D w tys A) A) av.toArray s 0 0 A) (entryFrame m av.toArray maxL)) : gMi l y ws rm D w tys u sz av post := by
  refine Met.ofW (cc := cc) (maxL := maxL) (ret := ret) hy hw ?_
  intro p e s m args below meth c s₁ B hml hv
  obtain ⟨rfl, hsz, hP, hK, hD0⟩ := hv
  subst hsz
  have hts := atoms_spec (ws := ws) B.pre
  have hown : s.vm.findClass own = some m.cls := hyc ▸ findClass_of_methodNamed B.named
  have hD := hD0.self (sz := s.heap.size)
  exact body p e s m below meth c (va_A (w u) s.heap.size) B.exec B.bytes B.returns B.notSynchronized hml hts hown hK hD (fun q h => Or.inr h) s.heap [] hP va_S.rf
theorem g_ofd {S : Type} {l : Launch} {y : MethodName} {ws ws' : List Cond} {rm : Room} {D : va_G} {w : S → va_W} {tys : List (ClassId × FieldType)} {u : S} {sz : Nat} {av : List Value} {post : UInt64 → S → Prop} {cc : ByteArray} {maxL : Nat} {ret : Option FieldType} {own : String} (hy : plainName y.cls = true) (hyc : y.cls = own) (hw : ws = Cond.code y cc maxL ret :: ws')
    (body : ∀ (p : Program) (e : Env) (s : State) (m : MethodId) (below : List Frame) (meth : Method) (c : Code) (A : Nat → Prop), p.tables.exec = Jvm.exec → c.code = cc → meth.sig.returnType = ret → meth.locks = false → c.maxLocals = maxL → (∀ w ∈ ws, w.before av.toArray s = true) → s.vm.findClass own = some m.cls → va_K D vwCl tys s → va_D A (w u) → (∀ q : Nat, s.heap.size ≤ q → A q) → ∀ (H : Heap) (locs : List Loc), va_P D vwCl (w u) H → va_S A s.heap H locs →
      W p l e (headSpec ws rm).room s m av.toArray below meth c H locs 0 0 (MQ below (va_Qd post (gQ D w tys A) A) av.toArray s 0 0 A) (entryFrame m av.toArray maxL)) : gMd l y ws rm D w tys u sz av post := by
  refine Met.ofW (cc := cc) (maxL := maxL) (ret := ret) hy hw ?_
  intro p e s m args below meth c s₁ B hml hv
  obtain ⟨rfl, hsz, hP, hK, hD0⟩ := hv
  subst hsz
  have hts := atoms_spec (ws := ws) B.pre
  have hown : s.vm.findClass own = some m.cls := hyc ▸ findClass_of_methodNamed B.named
  have hD := hD0.self (sz := s.heap.size)
  exact body p e s m below meth c (va_A (w u) s.heap.size) B.exec B.bytes B.returns B.notSynchronized hml hts hown hK hD (fun q h => Or.inr h) s.heap [] hP va_S.rf
theorem g_ofv {S : Type} {l : Launch} {y : MethodName} {ws ws' : List Cond} {rm : Room} {D : va_G} {w : S → va_W} {tys : List (ClassId × FieldType)} {u : S} {sz : Nat} {av : List Value} {post : S → Prop} {cc : ByteArray} {maxL : Nat} {ret : Option FieldType} {own : String} (hy : plainName y.cls = true) (hyc : y.cls = own) (hw : ws = Cond.code y cc maxL ret :: ws')
    (body : ∀ (p : Program) (e : Env) (s : State) (m : MethodId) (below : List Frame) (meth : Method) (c : Code) (A : Nat → Prop), p.tables.exec = Jvm.exec → c.code = cc → meth.sig.returnType = ret → meth.locks = false → c.maxLocals = maxL → (∀ w ∈ ws, w.before av.toArray s = true) → s.vm.findClass own = some m.cls → va_K D vwCl tys s → va_D A (w u) → (∀ q : Nat, s.heap.size ≤ q → A q) → ∀ (H : Heap) (locs : List Loc), va_P D vwCl (w u) H → va_S A s.heap H locs →
      W p l e (headSpec ws rm).room s m av.toArray below meth c H locs 0 0 (MQ below (va_Qv post (gQ D w tys A) A) av.toArray s 0 0 A) (entryFrame m av.toArray maxL)) : gMv l y ws rm D w tys u sz av post := by
  refine Met.ofW (cc := cc) (maxL := maxL) (ret := ret) hy hw ?_
  intro p e s m args below meth c s₁ B hml hv
  obtain ⟨rfl, hsz, hP, hK, hD0⟩ := hv
  subst hsz
  have hts := atoms_spec (ws := ws) B.pre
  have hown : s.vm.findClass own = some m.cls := hyc ▸ findClass_of_methodNamed B.named
  have hD := hD0.self (sz := s.heap.size)
  exact body p e s m below meth c (va_A (w u) s.heap.size) B.exec B.bytes B.returns B.notSynchronized hml hts hown hK hD (fun q h => Or.inr h) s.heap [] hP va_S.rf
