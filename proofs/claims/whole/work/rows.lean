section
-- ===== PART A: goes FIRST, ahead of the names: the tables' words, and 'selects' of the private methods out of them =====
/-- a private method of a class that the tables say can be made, by its rows of tables_1 -/
def lw_okq (q : MethodName × Nat) : Prop := (q.1.cls ≠ "java/lang/invoke/MethodHandle" ∧ q.1.cls ≠ "java/lang/invoke/VarHandle") ∧ Cond.instantiable q.1.cls q.2 ∈ tables_1 ∧ Cond.privateMethod q.1 ∈ tables_1 ∧ Cond.instanceMethod q.1 ∈ tables_1
theorem lw_p0 : lw_okq (⟨"StepGraph", "endRun", "()V"⟩, 16) := ⟨⟨by decide +kernel, by decide +kernel⟩, List.mem_of_getElem? (i := 9) (by decide +kernel), List.mem_of_getElem? (i := 75) (by decide +kernel), List.mem_of_getElem? (i := 76) (by decide +kernel)⟩
theorem lw_p1 : lw_okq (⟨"StepGraph", "isVertex", "(I)Z"⟩, 16) := ⟨⟨by decide +kernel, by decide +kernel⟩, List.mem_of_getElem? (i := 9) (by decide +kernel), List.mem_of_getElem? (i := 83) (by decide +kernel), List.mem_of_getElem? (i := 84) (by decide +kernel)⟩
theorem lw_p2 : lw_okq (⟨"StepGraph", "isPart", "(I)Z"⟩, 16) := ⟨⟨by decide +kernel, by decide +kernel⟩, List.mem_of_getElem? (i := 9) (by decide +kernel), List.mem_of_getElem? (i := 128) (by decide +kernel), List.mem_of_getElem? (i := 129) (by decide +kernel)⟩
theorem lw_p3 : lw_okq (⟨"java/lang/Throwable", "fillInStackTrace", "(I)Ljava/lang/Throwable;"⟩, 6) := ⟨⟨by decide +kernel, by decide +kernel⟩, List.mem_of_getElem? (i := 181) (by decide +kernel), List.mem_of_getElem? (i := 179) (by decide +kernel), List.mem_of_getElem? (i := 180) (by decide +kernel)⟩
theorem lw_p4 : lw_okq (⟨"StepGraph", "firstValue", "(II)D"⟩, 16) := ⟨⟨by decide +kernel, by decide +kernel⟩, List.mem_of_getElem? (i := 9) (by decide +kernel), List.mem_of_getElem? (i := 212) (by decide +kernel), List.mem_of_getElem? (i := 213) (by decide +kernel)⟩
theorem lw_p5 : lw_okq (⟨"StepGraph", "endStep", "()V"⟩, 16) := ⟨⟨by decide +kernel, by decide +kernel⟩, List.mem_of_getElem? (i := 9) (by decide +kernel), List.mem_of_getElem? (i := 216) (by decide +kernel), List.mem_of_getElem? (i := 217) (by decide +kernel)⟩
theorem lw_p6 : lw_okq (⟨"StepGraph", "clearWaiting", "()V"⟩, 16) := ⟨⟨by decide +kernel, by decide +kernel⟩, List.mem_of_getElem? (i := 9) (by decide +kernel), List.mem_of_getElem? (i := 220) (by decide +kernel), List.mem_of_getElem? (i := 221) (by decide +kernel)⟩
theorem lw_p7 : lw_okq (⟨"StepGraph", "sendAlong", "(IID)V"⟩, 16) := ⟨⟨by decide +kernel, by decide +kernel⟩, List.mem_of_getElem? (i := 9) (by decide +kernel), List.mem_of_getElem? (i := 224) (by decide +kernel), List.mem_of_getElem? (i := 225) (by decide +kernel)⟩
theorem lw_p8 : lw_okq (⟨"StepGraph", "partOf", "(I)I"⟩, 16) := ⟨⟨by decide +kernel, by decide +kernel⟩, List.mem_of_getElem? (i := 9) (by decide +kernel), List.mem_of_getElem? (i := 228) (by decide +kernel), List.mem_of_getElem? (i := 229) (by decide +kernel)⟩
theorem lw_p9 : lw_okq (⟨"StepGraph", "countDelivery", "(II)V"⟩, 16) := ⟨⟨by decide +kernel, by decide +kernel⟩, List.mem_of_getElem? (i := 9) (by decide +kernel), List.mem_of_getElem? (i := 232) (by decide +kernel), List.mem_of_getElem? (i := 233) (by decide +kernel)⟩
theorem lw_p10 : lw_okq (⟨"StepGraph", "messageOf", "(DD)D"⟩, 16) := ⟨⟨by decide +kernel, by decide +kernel⟩, List.mem_of_getElem? (i := 9) (by decide +kernel), List.mem_of_getElem? (i := 236) (by decide +kernel), List.mem_of_getElem? (i := 237) (by decide +kernel)⟩
theorem lw_p11 : lw_okq (⟨"StepGraph", "isBetter", "(DD)Z"⟩, 16) := ⟨⟨by decide +kernel, by decide +kernel⟩, List.mem_of_getElem? (i := 9) (by decide +kernel), List.mem_of_getElem? (i := 240) (by decide +kernel), List.mem_of_getElem? (i := 241) (by decide +kernel)⟩
theorem lw_p12 : lw_okq (⟨"StepGraph", "doStep", "()I"⟩, 16) := ⟨⟨by decide +kernel, by decide +kernel⟩, List.mem_of_getElem? (i := 9) (by decide +kernel), List.mem_of_getElem? (i := 269) (by decide +kernel), List.mem_of_getElem? (i := 270) (by decide +kernel)⟩
theorem lw_p13 : lw_okq (⟨"StepGraph", "bestWaiting", "(I)D"⟩, 16) := ⟨⟨by decide +kernel, by decide +kernel⟩, List.mem_of_getElem? (i := 9) (by decide +kernel), List.mem_of_getElem? (i := 273) (by decide +kernel), List.mem_of_getElem? (i := 274) (by decide +kernel)⟩
theorem lw_p14 : lw_okq (⟨"StepGraphModel", "forget", "()V"⟩, 20) := ⟨⟨by decide +kernel, by decide +kernel⟩, List.mem_of_getElem? (i := 284) (by decide +kernel), List.mem_of_getElem? (i := 359) (by decide +kernel), List.mem_of_getElem? (i := 360) (by decide +kernel)⟩
theorem lw_p15 : lw_okq (⟨"StepGraphModel", "isVertex", "(I)Z"⟩, 20) := ⟨⟨by decide +kernel, by decide +kernel⟩, List.mem_of_getElem? (i := 284) (by decide +kernel), List.mem_of_getElem? (i := 367) (by decide +kernel), List.mem_of_getElem? (i := 368) (by decide +kernel)⟩
def lw_privs_1 : List (MethodName × Nat) := [(⟨"StepGraph", "endRun", "()V"⟩, 16), (⟨"StepGraph", "isVertex", "(I)Z"⟩, 16), (⟨"StepGraph", "isPart", "(I)Z"⟩, 16), (⟨"java/lang/Throwable", "fillInStackTrace", "(I)Ljava/lang/Throwable;"⟩, 6), (⟨"StepGraph", "firstValue", "(II)D"⟩, 16), (⟨"StepGraph", "endStep", "()V"⟩, 16), (⟨"StepGraph", "clearWaiting", "()V"⟩, 16), (⟨"StepGraph", "sendAlong", "(IID)V"⟩, 16), (⟨"StepGraph", "partOf", "(I)I"⟩, 16), (⟨"StepGraph", "countDelivery", "(II)V"⟩, 16), (⟨"StepGraph", "messageOf", "(DD)D"⟩, 16), (⟨"StepGraph", "isBetter", "(DD)Z"⟩, 16), (⟨"StepGraph", "doStep", "()I"⟩, 16), (⟨"StepGraph", "bestWaiting", "(I)D"⟩, 16), (⟨"StepGraphModel", "forget", "()V"⟩, 20), (⟨"StepGraphModel", "isVertex", "(I)Z"⟩, 20)]
theorem lw_r1 : ∀ q ∈ lw_privs_1, lw_okq q := List.forall_mem_cons.mpr ⟨lw_p0, List.forall_mem_cons.mpr ⟨lw_p1, List.forall_mem_cons.mpr ⟨lw_p2, List.forall_mem_cons.mpr ⟨lw_p3, List.forall_mem_cons.mpr ⟨lw_p4, List.forall_mem_cons.mpr ⟨lw_p5, List.forall_mem_cons.mpr ⟨lw_p6, List.forall_mem_cons.mpr ⟨lw_p7, List.forall_mem_cons.mpr ⟨lw_p8, List.forall_mem_cons.mpr ⟨lw_p9, List.forall_mem_cons.mpr ⟨lw_p10, List.forall_mem_cons.mpr ⟨lw_p11, List.forall_mem_cons.mpr ⟨lw_p12, List.forall_mem_cons.mpr ⟨lw_p13, List.forall_mem_cons.mpr ⟨lw_p14, List.forall_mem_cons.mpr ⟨lw_p15, fun _ h => absurd h List.not_mem_nil⟩⟩⟩⟩⟩⟩⟩⟩⟩⟩⟩⟩⟩⟩⟩⟩
theorem lw_p16 : lw_okq (⟨"StepGraphModel", "sendAll", "()I"⟩, 20) := ⟨⟨by decide +kernel, by decide +kernel⟩, List.mem_of_getElem? (i := 284) (by decide +kernel), List.mem_of_getElem? (i := 380) (by decide +kernel), List.mem_of_getElem? (i := 381) (by decide +kernel)⟩
theorem lw_p17 : lw_okq (⟨"StepGraphModel", "send", "(IID)V"⟩, 20) := ⟨⟨by decide +kernel, by decide +kernel⟩, List.mem_of_getElem? (i := 284) (by decide +kernel), List.mem_of_getElem? (i := 384) (by decide +kernel), List.mem_of_getElem? (i := 385) (by decide +kernel)⟩
theorem lw_p18 : lw_okq (⟨"StepGraphModel", "message", "(DD)D"⟩, 20) := ⟨⟨by decide +kernel, by decide +kernel⟩, List.mem_of_getElem? (i := 284) (by decide +kernel), List.mem_of_getElem? (i := 388) (by decide +kernel), List.mem_of_getElem? (i := 389) (by decide +kernel)⟩
theorem lw_p19 : lw_okq (⟨"StepGraphModel", "isBetter", "(DD)Z"⟩, 20) := ⟨⟨by decide +kernel, by decide +kernel⟩, List.mem_of_getElem? (i := 284) (by decide +kernel), List.mem_of_getElem? (i := 392) (by decide +kernel), List.mem_of_getElem? (i := 393) (by decide +kernel)⟩
theorem lw_p20 : lw_okq (⟨"StepGraphModel", "isAny", "()Z"⟩, 20) := ⟨⟨by decide +kernel, by decide +kernel⟩, List.mem_of_getElem? (i := 284) (by decide +kernel), List.mem_of_getElem? (i := 400) (by decide +kernel), List.mem_of_getElem? (i := 401) (by decide +kernel)⟩
theorem lw_p21 : lw_okq (⟨"StepGraphModel", "one", "()I"⟩, 20) := ⟨⟨by decide +kernel, by decide +kernel⟩, List.mem_of_getElem? (i := 284) (by decide +kernel), List.mem_of_getElem? (i := 404) (by decide +kernel), List.mem_of_getElem? (i := 405) (by decide +kernel)⟩
def lw_privs_2 : List (MethodName × Nat) := [(⟨"StepGraphModel", "sendAll", "()I"⟩, 20), (⟨"StepGraphModel", "send", "(IID)V"⟩, 20), (⟨"StepGraphModel", "message", "(DD)D"⟩, 20), (⟨"StepGraphModel", "isBetter", "(DD)Z"⟩, 20), (⟨"StepGraphModel", "isAny", "()Z"⟩, 20), (⟨"StepGraphModel", "one", "()I"⟩, 20)]
theorem lw_r2 : ∀ q ∈ lw_privs_2, lw_okq q := List.forall_mem_cons.mpr ⟨lw_p16, List.forall_mem_cons.mpr ⟨lw_p17, List.forall_mem_cons.mpr ⟨lw_p18, List.forall_mem_cons.mpr ⟨lw_p19, List.forall_mem_cons.mpr ⟨lw_p20, List.forall_mem_cons.mpr ⟨lw_p21, fun _ h => absurd h List.not_mem_nil⟩⟩⟩⟩⟩⟩
def lw_privs : List (MethodName × Nat) := lw_privs_1 ++ (lw_privs_2)
def lw_tbl : List Cond := k2_sels lw_privs ++ tables_1
theorem lw_privs_ok : ∀ q ∈ lw_privs, lw_okq q := by
  show ∀ q ∈ lw_privs_1 ++ (lw_privs_2), lw_okq q
  exact List.forall_mem_append.mpr ⟨lw_r1, lw_r2⟩
/-- the streams that the claim lets the run draw from -/
abbrev lw_cs : List Choice := [Jvm.Choice.named "NaN.bits"]
theorem lw_bits : nanBits ∈ lw_cs := by first | decide | exact List.mem_cons_self | simp [lw_cs, nanBits]
/-- over this array there is an array of arrays already: by the tables -/
def va_AOA (t : FieldType) (U : State) : Prop := (Cond.arrayOver (.array t)).before #[] U = true
theorem va_AOA.of {t : FieldType} {A : Array Value} {U : State} (h : (Cond.arrayOver (.array t)).before A U = true) : va_AOA t U := h
theorem va_AOA.use {t : FieldType} {A : Array Value} {U : State} (h : va_AOA t U) : (Cond.arrayOver (.array t)).before A U = true := h
/-! ===== BEGIN words of one list among another's, by their places ===== -/
theorem goodIn_r {big : List Cond} (ws : List Cond) (ps : List Nat) (hp : ws = ps.filterMap (fun i => big[i]?)) (h : ws.all goodWord = true) : GoodIn big ws := by
  intro w hw
  have h1 := List.all_eq_true.mp h w hw
  rw [hp] at hw
  obtain ⟨i, -, hi⟩ := List.mem_filterMap.mp hw
  have hm : w ∈ big := by first | exact List.mem_of_getElem? hi | exact List.getElem?_mem hi
  exact ⟨hm, good_of_word h1⟩
theorem goodIn_app {big a b : List Cond} (ha : GoodIn big a) (hb : GoodIn big b) : GoodIn big (a ++ b) := fun w h => (List.mem_append.mp h).elim (ha w) (hb w)
theorem goodIn_ca {big a b : List Cond} {c : Cond} (ha : GoodIn big (c :: a)) (hb : GoodIn big b) : GoodIn big (c :: (a ++ b)) := fun w h => (List.mem_cons.mp h).elim (fun e => ha w (List.mem_cons.mpr (Or.inl e))) (fun h => (List.mem_append.mp h).elim (fun h => ha w (List.mem_cons.mpr (Or.inr h))) (hb w))
theorem goodIn_sub {big ws : List Cond} (hm : ∀ w ∈ ws, w ∈ big) (h : ws.all goodWord = true) : GoodIn big ws := fun w hw => ⟨hm w hw, good_of_word (List.all_eq_true.mp h w hw)⟩
/-! ===== END ===== -/

/-! ===== BEGIN new T[n][m]: the outer array a place, the inner ones among the pooled ===== -/
/-- f, but v at every address of l -/
def vr_up {α : Type} (f : Nat → α) (l : List Nat) (v : α) : Nat → α := fun a => if a ∈ l then v else f a
theorem vr_up_in {α : Type} {f : Nat → α} {l : List Nat} {v : α} {a : Nat} (h : a ∈ l) : vr_up f l v a = v := if_pos h
theorem vr_up_ne {α : Type} {f : Nat → α} {l : List Nat} {v : α} {a : Nat} (h : a ∉ l) : vr_up f l v a = f a := if_neg h
theorem vr_rows {L l : List Nat} {f : Nat → va_E} {e : va_E} (h : ∀ a, a ∈ l → a ∉ L) : va_pl L f ++ l.map (fun a => (a, e)) = va_pl (L ++ l) (vr_up f l e) := by
  unfold va_pl
  rw [List.map_append]
  congr 1
  · apply List.map_congr_left
    intro a ha
    rw [vr_up_ne (fun q => h a q ha)]
  · apply List.map_congr_left
    intro a ha
    rw [vr_up_in ha]
theorem vr_lay {X rows : va_W} {x : Nat × va_E} {pl : va_W} {D : va_G} {cl : List vw_C} {H : Heap} (hP : va_P D cl (((X ++ pl) ++ [x]) ++ rows) H) : va_P D cl ((X ++ [x]) ++ (pl ++ rows)) H := by
  rw [List.append_assoc (X ++ pl)] at hP
  have h := va_P.swap hP
  rw [← List.append_assoc X] at h
  have h2 := va_P.swap h
  rw [List.append_assoc (X ++ [x])] at h2
  exact h2
theorem vr_layD {X rows : va_W} {x : Nat × va_E} {pl : va_W} {A : Nat → Prop} (hD : va_D A (((X ++ pl) ++ [x]) ++ rows)) : va_D A ((X ++ [x]) ++ (pl ++ rows)) := by
  rw [List.append_assoc (X ++ pl)] at hD
  have h := va_D.swap hD
  rw [← List.append_assoc X] at h
  have h2 := va_D.swap h
  rw [List.append_assoc (X ++ [x])] at h2
  exact h2
theorem vr_outer (c : ClassId) (N h0 : Nat) : ∀ i : Nat, Jvm.Free.Multi.outerC c N h0 i = arrV c N (fun j => va_rf (if j < i then some (h0 + 1 + j) else none))
  | 0 => by
    show ({ cls := c, slots := Array.replicate N .null, vm := .none } : Cell) = _
    rw [arrV_new]
    refine congrArg (arrV c N) (funext fun j => ?_)
    simp [va_rf]
  | i + 1 => by
    show (Jvm.Free.Multi.outerC c N h0 i).setSlot i (.ref (h0 + 1 + i)) = _
    rw [vr_outer c N h0 i, arrV_store]
    refine congrArg (arrV c N) (funext fun j => ?_)
    by_cases e : j = i
    · subst e
      simp [updV, va_rf]
    · by_cases h : j < i
      · simp [updV, e, h, Nat.lt_succ_of_lt h]
      · simp [updV, e, h, show ¬ j < i + 1 by omega]
section VGM
variable {p : Program} {l : Launch} {e : Env} {R : Room} {s : State} {m : MethodId} {args : Array Value} {below : List Frame} {meth : Method} {c : Code} {H : Heap} {locs : List Loc} {cells slots : Nat} {Q : State → Prop}
variable {cc : ByteArray} {pc : Nat} {ls : Array Slot} {rest : List Value} {D : va_G} {cl : List vw_C} {A : Nat → Prop} {a : Nat} {tys : List (ClassId × FieldType)} {ws : va_W} {H0 : Heap}
theorem va_mna {X : va_W} {L : List Nat} {f : Nat → va_E} {cc : ByteArray} (hexec : p.tables.exec = Jvm.exec) (hb : c.code = cc) {own : String} {index : Nat} {ty : FieldType} {cy : ClassId} (hown : s.vm.findClass own = some m.cls) (hclink : (Cond.classLink own index ("[" ++ (FieldType.array ty).toString)).before args s = true) (hover : va_AOA ty s) (harr : (Cond.arrayClass ty).before args s = true) (hcy : s.vm.findClass (FieldType.array ty).toString = some cy)
    (hK : va_K D cl tys s) (hP : va_P D cl (X ++ va_pl L f) H) (hD : va_D A (X ++ va_pl L f)) (hS : va_S A H0 H locs) (hA : ∀ q, H0.size ≤ q → A q) {n k : Int32} {N' K' : Nat} {z : vp_A} (hn : ¬ n < 0) (hk : ¬ k < 0) (hN : n.toNatClampNeg = N') (hM : k.toNatClampNeg = K')
    (hb1 : N' * 4 ≤ 536870912) (hb2 : K' * componentBytes ty ≤ 536870912) (hb3 : K' ≤ 536870912) (hdf : fits ty (defaultValue ty) = true) (hdd : (defaultValue ty).isDefault = true) (hcells : cells + (1 + N') ≤ R.cells) (hslots : slots + (N' + N' * K') ≤ R.slots) (hz : ∀ c : ClassId, Jvm.Free.Multi.innerC c K' (defaultValue ty) = vp_cell c z) (hdg : decode cc pc = .ok (.multianewarray index 2, 4))
    (kk : ∀ (q : Nat) (r : Nat → Nat) (cA : ClassId) (H1 : Heap), (∀ i j : Nat, i < N' → j < N' → r i = r j → i = j) → (∀ i : Nat, i < N' → r i ∉ L) → va_K D cl (tys ++ [(cA, .array ty)]) s →
      va_P D cl ((X ++ [(q, .inl (cA, N', .inr (.inr (.inr (.inr (fun i => if i < N' then some (r i) else none))))))]) ++ va_pl (L ++ (List.range N').map r) (vr_up f ((List.range N').map r) (.inl (cy, z)))) H1 → va_D A ((X ++ [(q, .inl (cA, N', .inr (.inr (.inr (.inr (fun i => if i < N' then some (r i) else none))))))]) ++ va_pl (L ++ (List.range N').map r) (vr_up f ((List.range N').map r) (.inl (cy, z)))) → va_S A H0 H1 locs →
      W p l e R s m args below meth c H1 locs (cells + 1 + N') (slots + N' + N' * K') Q (F0 m (pc + 4) ls (.ref q :: rest))) : W p l e R s m args below meth c H locs cells slots Q (F0 m pc ls (.int k :: .int n :: rest)) := by
  subst hN
  subst hM
  intro T hT Xs
  obtain ⟨vm₁, cA, comp, -, fA, fC, hO, -, X', step⟩ := Xs.multianewarray2F hexec hown hclink (va_AOA.use hover) harr (g := F0 m pc ls (.int k :: .int n :: rest)) rfl (by rw [hb]; exact hdg) rfl hn hk hb1 hb2 hb3 hdf hdd hcells hslots
  have ec : some cy = some comp := hcy.symm.trans fC
  cases ec
  generalize hF : Jvm.Free.Multi.fill (T.setVm vm₁) cA cy n.toNatClampNeg k.toNatClampNeg (defaultValue ty) n.toNatClampNeg = F at X' step
  have hTh : (T.setVm vm₁).heap = H := hT
  obtain ⟨f1, f2, -, -⟩ := Jvm.Free.Multi.fill_facts (T.setVm vm₁) cA cy n.toNatClampNeg k.toNatClampNeg (defaultValue ty) n.toNatClampNeg
  rw [hF, hTh] at f1 f2
  have hold : ∀ x : Nat, x < H.size → F.heap[x]? = H[x]? := fun x hx => by
    have := Jvm.Free.Multi.fill_old (T.setVm vm₁) cA cy n.toNatClampNeg k.toNatClampNeg (defaultValue ty) (a := x) (by rw [hTh]; exact hx) n.toNatClampNeg
    rw [hF, hTh] at this
    exact this
  have hrow : ∀ j : Nat, j < n.toNatClampNeg → F.heap[H.size + 1 + j]? = some (vp_cell cy z) := fun j hj => by
    have := Jvm.Free.Multi.fill_inner (T.setVm vm₁) cA cy n.toNatClampNeg k.toNatClampNeg (defaultValue ty) n.toNatClampNeg j hj
    rw [hF, hTh, hz] at this
    exact this
  have hout : Jvm.Free.Multi.outerC cA n.toNatClampNeg H.size n.toNatClampNeg = vp_cell cA (n.toNatClampNeg, .inr (.inr (.inr (.inr (fun i => if i < n.toNatClampNeg then some (H.size + 1 + i) else none))))) := by
    rw [vp_cell_q]
    exact vr_outer cA n.toNatClampNeg H.size n.toNatClampNeg
  rw [hout] at f2
  have hlt : ∀ a, a ∈ L → a < H.size := fun a ha => by
    obtain ⟨k9, hk9⟩ := va_pl_get (X := X) (f := f) ha
    exact (hP k9 _ hk9).lt
  have hnl : ∀ i : Nat, i < n.toNatClampNeg → H.size + 1 + i ∉ L := fun i _ h => by
    have := hlt _ h
    omega
  have hnm : ∀ a, a ∈ (List.range n.toNatClampNeg).map (fun i => H.size + 1 + i) → a ∉ L := fun a ha h => by
    obtain ⟨i, -, rfl⟩ := List.mem_map.mp ha
    have := hlt _ h
    omega
  have hP0 : va_P D cl (X ++ va_pl L f) F.heap := hP.kept (fun k9 x hx => hold x.1 ((hP k9 x hx).lt))
  have hP1 : va_P D cl ((X ++ va_pl L f) ++ [(H.size, .inl (cA, n.toNatClampNeg, .inr (.inr (.inr (.inr (fun i => if i < n.toNatClampNeg then some (H.size + 1 + i) else none))))))]) F.heap := hP0.app (fun k9 x hx => by
    have h0 : k9 < 1 := (List.getElem?_eq_some_iff.mp hx).1
    rw [show k9 = 0 by omega] at hx
    cases hx
    exact f2)
  have hP2 : va_P D cl (((X ++ va_pl L f) ++ [(H.size, .inl (cA, n.toNatClampNeg, .inr (.inr (.inr (.inr (fun i => if i < n.toNatClampNeg then some (H.size + 1 + i) else none))))))]) ++ ((List.range n.toNatClampNeg).map (fun i => H.size + 1 + i)).map (fun a => (a, .inl (cy, z)))) F.heap := hP1.app (fun k9 x hx => by
    obtain ⟨a, ha, rfl⟩ := List.mem_map.mp (List.mem_of_getElem? hx)
    obtain ⟨i, hi, rfl⟩ := List.mem_map.mp ha
    exact hrow i (List.mem_range.mp hi))
  have hD2 : va_D A (((X ++ va_pl L f) ++ [(H.size, .inl (cA, n.toNatClampNeg, .inr (.inr (.inr (.inr (fun i => if i < n.toNatClampNeg then some (H.size + 1 + i) else none))))))]) ++ ((List.range n.toNatClampNeg).map (fun i => H.size + 1 + i)).map (fun a => (a, .inl (cy, z)))) := by
    have hD1 := hD.push (e := .inl (cA, n.toNatClampNeg, .inr (.inr (.inr (.inr (fun i => if i < n.toNatClampNeg then some (H.size + 1 + i) else none)))))) hP rfl (hA _ hS.1)
    generalize hW1 : (X ++ va_pl L f) ++ [(H.size, .inl (cA, n.toNatClampNeg, .inr (.inr (.inr (.inr (fun i => if i < n.toNatClampNeg then some (H.size + 1 + i) else none))))))] = W1 at hD1 hP1 ⊢
    have hle : ∀ (k9 : Nat) (x : Nat × va_E), W1[k9]? = some x → x.1 ≤ H.size := fun k9 x hx => by
      rw [← hW1] at hx
      by_cases hl : k9 < (X ++ va_pl L f).length
      · rw [List.getElem?_append_left hl] at hx
        exact Nat.le_of_lt ((hP k9 x hx).lt)
      · rw [List.getElem?_append_right (by omega)] at hx
        have h0 : k9 - (X ++ va_pl L f).length < 1 := (List.getElem?_eq_some_iff.mp hx).1
        rw [show k9 - (X ++ va_pl L f).length = 0 by omega] at hx
        cases hx
        exact Nat.le_refl _
    have hr : ∀ (k9 : Nat) (x : Nat × va_E), (((List.range n.toNatClampNeg).map (fun i => H.size + 1 + i)).map (fun a => ((a, .inl (cy, z)) : Nat × va_E)))[k9]? = some x → x.1 = H.size + 1 + k9 := fun k9 x hx => by
      rw [List.getElem?_map, List.getElem?_map] at hx
      by_cases h9 : k9 < n.toNatClampNeg
      · rw [List.getElem?_range h9] at hx
        cases hx
        rfl
      · have hn0 : (List.range n.toNatClampNeg)[k9]? = none := List.getElem?_eq_none (by rw [List.length_range]; omega)
        rw [hn0] at hx
        cases hx
    refine ⟨fun i j x y hi hj hxy => ?_, fun k9 x hx => ?_⟩
    · by_cases h1 : i < W1.length <;> by_cases h2 : j < W1.length
      · rw [List.getElem?_append_left h1] at hi
        rw [List.getElem?_append_left h2] at hj
        exact hD1.1 i j x y hi hj hxy
      · rw [List.getElem?_append_left h1] at hi
        rw [List.getElem?_append_right (by omega)] at hj
        have := hle _ _ hi
        have := hr _ _ hj
        omega
      · rw [List.getElem?_append_right (by omega)] at hi
        rw [List.getElem?_append_left h2] at hj
        have := hle _ _ hj
        have := hr _ _ hi
        omega
      · rw [List.getElem?_append_right (by omega)] at hi hj
        have := hr _ _ hi
        have := hr _ _ hj
        omega
    · by_cases h1 : k9 < W1.length
      · rw [List.getElem?_append_left h1] at hx
        exact hD1.2 k9 x hx
      · rw [List.getElem?_append_right (by omega)] at hx
        have := hr _ _ hx
        exact hA _ (by have := hS.1; omega)
  have hAr : ArrOfT s cA (.array ty) := fun N9 z9 => by
    obtain ⟨-, k9, hk9, cm9, hkk9⟩ := (hO 0 0 0).1
    exact ⟨(fun q hq => by cases hq), k9, hk9, cm9, hkk9⟩
  have hK2 : va_K D cl (tys ++ [(cA, .array ty)]) s := ⟨hK.1, fun k9 x hx => by
    by_cases hl : k9 < tys.length
    · rw [List.getElem?_append_left hl] at hx
      exact hK.2 k9 x hx
    · rw [List.getElem?_append_right (by omega)] at hx
      have h0 : k9 - tys.length < 1 := (List.getElem?_eq_some_iff.mp hx).1
      rw [show k9 - tys.length = 0 by omega] at hx
      cases hx
      exact ⟨hAr, fA⟩⟩
  obtain ⟨t, a1, b1⟩ := kk H.size (fun i => H.size + 1 + i) cA F.heap (fun i j _ _ h => by have h9 : H.size + 1 + i = H.size + 1 + j := h; omega) hnl hK2 (by rw [← vr_rows hnm]; exact vr_lay hP2) (by rw [← vr_rows hnm]; exact vr_layD hD2) ⟨by rw [f1]; have := hS.1; omega, fun x h1 h2 => (hold x (Nat.lt_of_lt_of_le h1 hS.1)).trans (hS.2.1 x h1 h2), hS.2.2⟩ F rfl X'
  refine ⟨t, step t ?_, b1⟩
  have e : T.heap.size = H.size := by rw [hT]
  rw [e]
  exact a1
end VGM
/-! ===== END ===== -/

/-! ===== BEGIN exceptions that leave a method, and their catching by the caller (launches without stack traces) ===== -/
section VXA
/-! The laws vx_back, vx_callV, vx_callS, vx_callSW, vx_throw0, vx_throwS follow proofs of the library, with one case more: JvmDerived/Free/Laws.lean (Back.of_free), Shelf42/LK1.lean (callV, callS), Shelf/KitTraced.lean (throwNew0V, throwNewS). -/

/-- where a method has thrown q: the class by its name, the cell, what was written, the world -/
def vx_T (XC : String → State → State → Prop) (st : State) (q : Addr) (t : State) (mc ms : Nat) (free : Addr → Prop) : Prop :=
  ∃ (E : String) (ce : Cell) (L : List Loc), XC E st t ∧ t.heap[q]? = some ce ∧ ce.vm = .none ∧ st.vm.findClass E = some ce.cls ∧ st.WarmedH t.vm ∧ st.sameButNew ({ t with vm := st.vm } : State) L mc ms ∧ ∀ z ∈ L, free z.base
def vx_Q (Qc : Array Value → State → Outcome → State → Prop) (XC : String → State → State → Prop) (mc ms : Nat) (free : Addr → Prop) : Array Value → State → Outcome → State → Prop := fun a st o t =>
  (Qc a st o t ∧ ∃ L, FrameEnd st o t L mc ms ∧ ∀ q ∈ L, free q.base) ∨ ∃ q, o = .threw q ∧ vx_T XC st q t mc ms free
/-- a callee that returns or throws -/
def vx_Met (l : Launch) (y : MethodName) (ws : List Cond) (rm : Room) (Pc : Array Value → State → Prop) (Qc : Array Value → State → Outcome → State → Prop) (XC : String → State → State → Prop) (mc ms : Nat) (free : Addr → Prop) : Prop :=
  MetFree l y (headSpec ws rm) Pc (fun _ _ _ _ _ => True) (vx_Q Qc XC mc ms free)
def vx_Post (XC : String → State → State → Prop) (mc ms : Nat) (free : Addr → Prop) : Pt → Array Value → Addr → Pt → Prop := fun A a q B =>
  ∃ (g : JFrame) (mk : MethodId) (t : State) (L : List Loc) (E : String) (ce : Cell), B.U.heap = t.heap ∧ B.U.vm = t.vm ∧ XC E (A.U.calling g mk a) t ∧ t.heap[q]? = some ce ∧ ce.vm = .none ∧ A.U.vm.findClass E = some ce.cls ∧ B.locs = A.locs ++ L ∧ (∀ z ∈ L, free z.base) ∧ B.cells = A.cells + mc ∧ B.slots = A.slots + ms
def vx_Back (l : Launch) (R : Room) (p : Program) (e : Env) (below : List Frame) (s : State) (sargs : Array Value) (y : MethodName) (len W9 : Nat)
    (Pre : Pt → Array Value → Prop) (Post : Pt → Array Value → Option Value → Pt → Prop) (PostX : Pt → Array Value → Addr → Pt → Prop) : Prop :=
  ∀ (m : MethodId) (meth : Method) (c : Code) (A : Pt) (g : JFrame) (ig : Instr) (mk : MethodId) (a : Array Value),
    Stand p l e R s m sargs below meth c A.U A.locs A.cells A.slots → g.method = m → g.locals.size = c.maxLocals → decode c.code g.pc = .ok (ig, len) →
    2 * g.monitorRoom + (g.stack.map fun v => v.category).sum ≤ W9 → A.U.methodNamed? y = some mk → Pre A a →
    (∃ (v : Option Value) (B : Pt), Stand p l e R s m sargs below meth c B.U B.locs B.cells B.slots ∧ Post A a v B ∧
      Steps p.tables e below (doInvoke e (A.U.setTop g) [] mk a).1 (B.U.setTop { g with pc := g.pc + len, stack := v.toList ++ g.stack })) ∨
    (∃ (q : Addr) (B : Pt), Stand p l e R s m sargs below meth c B.U B.locs B.cells B.slots ∧ PostX A a q B ∧
      Steps p.tables e below (doInvoke e (A.U.setTop g) [] mk a).1 ((B.U.setTop g).pushFrame (.throwing q)))
section Payer
variable {l : Launch} {R : Room} {p : Program} {e : Env} {below : List Frame} {s : State} {sargs : Array Value} {y : MethodName} {len W9 : Nat}
theorem vx_back {ws : List Cond} {rm : Room} {Pc : Array Value → State → Prop} {Qc : Array Value → State → Outcome → State → Prop} {XC : String → State → State → Prop} {mc ms : Nat} {free : Addr → Prop} {bytes : ByteArray} {maxL : Nat} {ret : Option FieldType}
    (hM : vx_Met l y ws rm Pc Qc XC mc ms free) (hblind : FrameBlind Pc) (hrc : rm.cells = mc) (hrs : rm.slots = ms)
    (hframes : rm.frames + 1 ≤ R.frames) (hlocals : W9 + (maxL + 11) + rm.locals ≤ R.locals)
    (hws : ∀ w ∈ ws, ∀ a' U, s.WarmedH U.vm → w.before a' U = true) (hcode : Cond.code y bytes maxL ret ∈ ws) (hinit : ∀ a' U, s.WarmedH U.vm → (Cond.initialized y.cls).before a' U = true) :
    vx_Back l R p e below s sargs y len W9 (PreOf R mc ms Pc) (PostOf Qc mc ms free) (vx_Post XC mc ms free) := by
  intro m meth c A g ig mk a X hg hsize hdg hW hn hp
  have h1 : (headSpec ws rm).pre.before a A.U = true := atoms_intro fun w hw => hws w hw _ _ X.warmed
  have h2 : (Cond.code y bytes maxL ret).before a A.U = true := hws _ hcode _ _ X.warmed
  have h3 : (Cond.initialized y.cls).before a A.U = true := hinit _ _ X.warmed
  have h4 : A.cells + (headSpec ws rm).room.cells ≤ R.cells := by rw [show (headSpec ws rm).room.cells = mc from hrc]; exact hp.1
  have h5 : A.slots + (headSpec ws rm).room.slots ≤ R.slots := by rw [show (headSpec ws rm).room.slots = ms from hrs]; exact hp.2.1
  have hPc : Pc a (A.U.calling g mk a) := hblind _ _ _ _ hp.2.2
  obtain ⟨U, Ls, c0, s0⟩ := A
  dsimp only [Pt.U, Pt.locs, Pt.cells, Pt.slots] at h1 h2 h3 h4 h5 X hn hPc ⊢
  obtain ⟨methY, cY, hmY, hcY, -, hlY, -, -, -, -⟩ := Cond.code_spec hn h2
  obtain ⟨kY, hkY, -⟩ := className_of_methodNamed hn
  have hinitY : kY.init = .initialized := Cond.initialized_spec (findClass_of_methodNamed hn) hkY h3
  have h : At U g.method c below := by rw [hg]; exact X.here
  have hlocals9 : W9 + (maxL + 11) + (headSpec ws rm).room.locals ≤ R.locals := hlocals
  have happ : (headSpec ws rm).appliesLoose y e.platform (U.calling g mk a) = true :=
    Spec.appliesLoose_calling (g := g) h hdg hn hkY hinitY
      (X.room_calling (g := g) (R' := (headSpec ws rm).room) hsize hmY hcY hframes (by rw [hlY]; omega) h4 h5) h1
  obtain ⟨mid, hmid⟩ := h.above
  have hfr : (U.setTop g).frames = (.java g :: mid) ++ below := by rw [State.frames_setTop' g h.top, hmid]; rfl
  obtain ⟨o, s₂, hsteps, -, hend, hq⟩ := Steps.callFree hM p X.admits X.cas X.clock (acts := []) hfr happ hPc trivial
  have hq' : vx_Q Qc XC mc ms free a (U.calling g mk a) o s₂ := hq
  rw [State.frames_setTop' g h.top] at hend
  obtain ⟨g₀, hg0⟩ := Option.isSome_iff_exists.mp h.top
  obtain ⟨r, hr⟩ := State.topJava?_eq_some.mp hg0
  have hr' : (({ U with heap := s₂.heap, slotsUsed := s₂.slotsUsed } : State).setVm s₂.vm).frames = .java g₀ :: r := hr
  rcases hq' with ⟨hqc, L, hfe, hL⟩ | ⟨q, rfl, E, ce, L, hx, hce, hcv, hcl, hW₂, hsm, hL⟩
  · obtain ⟨⟨v, rfl⟩, hW₂, e2, q2, q3, q4, q5, q6⟩ := id hfe
    have e3 : s₂ = ({ (U.calling g mk a).setFrames s₂.frames with heap := s₂.heap, slotsUsed := s₂.slotsUsed } : State).setVm s₂.vm := by
      have : s₂ = ({ s₂ with vm := (U.calling g mk a).vm } : State).setVm s₂.vm := rfl
      rw [e2] at this
      exact this
    obtain ⟨c₂, i₂, len₂, hc₂, hd₂, hf₂⟩ := hend
    have hW' : U.WarmedH s₂.vm := hW₂
    have hcc : c₂ = c := by
      have h1 : s₂.code? g.method = U.code? g.method := by
        rw [State.code?_eq, State.code?_eq, hW'.alike.method?]
      exact Option.some.inj (hc₂.symm.trans (h1.trans h.code))
    subst hcc
    have hlen : len₂ = len := by rw [hdg] at hd₂; cases hd₂; rfl
    subst hlen
    have hs₂ : s₂ = (({ U with heap := s₂.heap, slotsUsed := s₂.slotsUsed } : State).setVm s₂.vm).setTop { g with pc := g.pc + len₂, stack := v.toList ++ g.stack } := by
      refine e3.trans ?_
      rw [hf₂, State.calling_eq h.top, State.setFrames_setFrames, State.setTop_of_frames _ hr', hr]
      rfl
    have hsame : U.sameButNew ({ U with heap := s₂.heap, slotsUsed := s₂.slotsUsed } : State) L mc ms := by
      refine ⟨?_, q2, q3, q4, q5, q6⟩
      obtain ⟨t, ht, -⟩ := State.frames_cons hr
      show ({ U with heap := s₂.heap, slotsUsed := s₂.slotsUsed } : State) = { U.setFrames U.frames with heap := s₂.heap, slotsUsed := s₂.slotsUsed }
      rw [State.setFrames_self ht]
    subst hg
    refine Or.inl ⟨v, ⟨(({ U with heap := s₂.heap, slotsUsed := s₂.slotsUsed } : State).setVm s₂.vm), Ls ++ L, c0 + mc, s0 + ms⟩,
      ⟨X.admits, X.cas, X.clock, X.frames, X.room, X.hears, X.method, X.code, (X.here.setHeapUsed s₂.heap s₂.slotsUsed).setVm hW'.alike, X.tail, State.WarmedH.trans X.warmed hW', X.limits, X.bytes, X.same.trans (hsame.setVm s.vm)⟩,
      ⟨g, mk, s₂, L, rfl, rfl, hqc, rfl, hL, rfl, rfl⟩, ?_⟩
    show Steps p.tables e below _ ((({ U with heap := s₂.heap, slotsUsed := s₂.slotsUsed } : State).setVm s₂.vm).setTop { g with pc := g.pc + len₂, stack := v.toList ++ g.stack })
    rw [← hs₂]
    exact hsteps
  · obtain ⟨e2, q2, q3, q4, q5, q6⟩ := id hsm
    have e3 : s₂ = ({ (U.calling g mk a).setFrames s₂.frames with heap := s₂.heap, slotsUsed := s₂.slotsUsed } : State).setVm s₂.vm := by
      have : s₂ = ({ s₂ with vm := (U.calling g mk a).vm } : State).setVm s₂.vm := rfl
      rw [e2] at this
      exact this
    have hf₂ : s₂.frames = .throwing q :: .java g :: U.frames.tail := hend
    have hW' : U.WarmedH s₂.vm := hW₂
    have hs₂ : s₂ = ((({ U with heap := s₂.heap, slotsUsed := s₂.slotsUsed } : State).setVm s₂.vm).setTop g).pushFrame (.throwing q) := by
      refine e3.trans ?_
      rw [hf₂, State.calling_eq h.top, State.setFrames_setFrames, State.pushFrame, State.frames_setTop _ hr', State.setTop_of_frames _ hr', State.setFrames_setFrames, hr]
      rfl
    have hsame : U.sameButNew ({ U with heap := s₂.heap, slotsUsed := s₂.slotsUsed } : State) L mc ms := by
      refine ⟨?_, q2, q3, q4, q5, q6⟩
      obtain ⟨t, ht, -⟩ := State.frames_cons hr
      show ({ U with heap := s₂.heap, slotsUsed := s₂.slotsUsed } : State) = { U.setFrames U.frames with heap := s₂.heap, slotsUsed := s₂.slotsUsed }
      rw [State.setFrames_self ht]
    subst hg
    refine Or.inr ⟨q, ⟨(({ U with heap := s₂.heap, slotsUsed := s₂.slotsUsed } : State).setVm s₂.vm), Ls ++ L, c0 + mc, s0 + ms⟩,
      ⟨X.admits, X.cas, X.clock, X.frames, X.room, X.hears, X.method, X.code, (X.here.setHeapUsed s₂.heap s₂.slotsUsed).setVm hW'.alike, X.tail, State.WarmedH.trans X.warmed hW', X.limits, X.bytes, X.same.trans (hsame.setVm s.vm)⟩,
      ⟨g, mk, s₂, L, E, ce, rfl, rfl, hx, hce, hcv, hcl, rfl, hL, rfl, rfl⟩, ?_⟩
    show Steps p.tables e below _ (((({ U with heap := s₂.heap, slotsUsed := s₂.slotsUsed } : State).setVm s₂.vm).setTop g).pushFrame (.throwing q))
    rw [← hs₂]
    exact hsteps
end Payer
section Calls
variable {p : Program} {l : Launch} {e : Env} {R : Room} {s : State} {m : MethodId} {args : Array Value} {below : List Frame} {meth : Method} {c : Code} {T : State} {locs : List Loc} {cells slots : Nat}
theorem vx_callV (X : Stand p l e R s m args below meth c T locs cells slots) (hexec : p.tables.exec = Jvm.exec) {own C : String} {index : Nat} {y : MethodName} {bytes : ByteArray} {maxL : Nat} {ret : Option FieldType}
    (hown : s.vm.findClass own = some m.cls) (hlink : (Cond.methodLink own index y).before args s = true) (hinst : (Cond.instanceMethod y).before args s = true) (hsel : (Cond.selects C y y).before args s = true)
    (hcode : (Cond.code y bytes maxL ret).before args s = true) (hy : y.cls ≠ "java/lang/invoke/MethodHandle" ∧ y.cls ≠ "java/lang/invoke/VarHandle")
    {W9 : Nat} {Pre : Pt → Array Value → Prop} {Post : Pt → Array Value → Option Value → Pt → Prop} {PostX : Pt → Array Value → Addr → Pt → Prop} (hK : vx_Back l R p e below s args y 3 W9 Pre Post PostX)
    {b : Addr} {cellB : Cell} (hcell : T.heap[b]? = some cellB) (hobj : cellB.vm.isStatics = false) (hcls : s.vm.findClass C = some cellB.cls)
    {g : JFrame} (hg : g.method = m) (hsize : g.locals.size = c.maxLocals) {argsL rest : List Value} (hlen : ∀ sig, parseMethodDescriptor y.desc = some sig → argsL.length = sig.parameters.length)
    (hstack : g.stack = argsL.reverse ++ .ref b :: rest) (hW : 2 * g.monitorRoom + (rest.map fun v => v.category).sum ≤ W9) (hdg : decode c.code g.pc = .ok (.invokevirtual index, 3))
    (hpre : ∀ vm₁, s.WarmedH vm₁ → Pre ⟨T.setVm vm₁, locs, cells, slots⟩ (Value.ref b :: argsL).toArray) :
    (∃ (v : Option Value) (vm₁ : Vm) (B : Pt), s.WarmedH vm₁ ∧ Stand p l e R s m args below meth c B.U B.locs B.cells B.slots ∧ Post ⟨T.setVm vm₁, locs, cells, slots⟩ (Value.ref b :: argsL).toArray v B ∧
      ∀ target, Steps p.tables e below (B.U.setTop { g with pc := g.pc + 3, stack := v.toList ++ rest }) target → Steps p.tables e below (T.setTop g) target) ∨
    (∃ (q : Addr) (vm₁ : Vm) (B : Pt), s.WarmedH vm₁ ∧ Stand p l e R s m args below meth c B.U B.locs B.cells B.slots ∧ PostX ⟨T.setVm vm₁, locs, cells, slots⟩ (Value.ref b :: argsL).toArray q B ∧
      Steps p.tables e below (T.setTop g) ((B.U.setTop { g with stack := rest }).pushFrame (.throwing q))) := by
  obtain ⟨mk, methM, hnamed, hmethM, hstM, habM⟩ := Cond.instanceMethod_spec hinst
  obtain ⟨methM', cM, hmethM', -, -, -, -, -, -, hsigM⟩ := Cond.code_spec hnamed hcode
  cases hmethM.symm.trans hmethM'
  obtain ⟨c2, r2, m2, q1, q2, q3, q4, kP, hkP, hkPi⟩ := Cond.selects_spec hsel
  cases hcls.symm.trans q1
  cases (State.methodFound?_of_named hnamed hy).symm.trans q2
  cases hnamed.symm.trans q3
  have hselP : selectMethod e.platform s.vm cellB.cls mk = .method mk := by rw [Launch.admits_selectMethod X.admits]; exact q4
  obtain ⟨vm₁, X₁, hstep₁⟩ := X.invokevirtual hexec hown hlink hnamed hmethM hstM hkP hkPi hy (a := b) (cell := cellB) hcell
    (fun z h => by rw [h] at hobj; cases hobj) hselP hmethM habM hkP hkPi (g := g) hg (argsL := argsL) (rest := rest) (hlen _ hsigM) hstack hdg
  rcases hK m meth c ⟨T.setVm vm₁, locs, cells, slots⟩ { g with stack := rest } (.invokevirtual index) mk (Value.ref b :: argsL).toArray X₁ hg hsize hdg hW (X₁.named hnamed) (hpre vm₁ X₁.warmed) with ⟨v, B, X', hpost, hsteps⟩ | ⟨q, B, X', hpost, hsteps⟩
  · exact Or.inl ⟨v, vm₁, B, X₁.warmed, X', hpost, fun target h => hstep₁ _ fun acts => by rw [doInvoke_state]; exact hsteps.trans h⟩
  · exact Or.inr ⟨q, vm₁, B, X₁.warmed, X', hpost, hstep₁ _ fun acts => by rw [doInvoke_state]; exact hsteps⟩
theorem vx_callS (X : Stand p l e R s m args below meth c T locs cells slots) (hexec : p.tables.exec = Jvm.exec) {own : String} {index : Nat} {y : MethodName} {bytes : ByteArray} {maxL : Nat} {ret : Option FieldType}
    (hown : s.vm.findClass own = some m.cls) (hlink : (Cond.methodLink own index y).before args s = true) (hstat : (Cond.static y).before args s = true) (hinit : (Cond.initialized y.cls).before args s = true)
    (hcode : (Cond.code y bytes maxL ret).before args s = true) (hy : y.cls ≠ "java/lang/invoke/MethodHandle" ∧ y.cls ≠ "java/lang/invoke/VarHandle")
    {W9 : Nat} {Pre : Pt → Array Value → Prop} {Post : Pt → Array Value → Option Value → Pt → Prop} {PostX : Pt → Array Value → Addr → Pt → Prop} (hK : vx_Back l R p e below s args y 3 W9 Pre Post PostX)
    {g : JFrame} (hg : g.method = m) (hsize : g.locals.size = c.maxLocals) {argsL rest : List Value} (hlen : ∀ sig, parseMethodDescriptor y.desc = some sig → argsL.length = sig.parameters.length)
    (hstack : g.stack = argsL.reverse ++ rest) (hW : 2 * g.monitorRoom + (rest.map fun v => v.category).sum ≤ W9) (hdg : decode c.code g.pc = .ok (.invokestatic index, 3))
    (hpre : ∀ vm₁, s.WarmedH vm₁ → Pre ⟨T.setVm vm₁, locs, cells, slots⟩ argsL.toArray) :
    (∃ (v : Option Value) (vm₁ : Vm) (B : Pt), s.WarmedH vm₁ ∧ Stand p l e R s m args below meth c B.U B.locs B.cells B.slots ∧ Post ⟨T.setVm vm₁, locs, cells, slots⟩ argsL.toArray v B ∧
      ∀ target, Steps p.tables e below (B.U.setTop { g with pc := g.pc + 3, stack := v.toList ++ rest }) target → Steps p.tables e below (T.setTop g) target) ∨
    (∃ (q : Addr) (vm₁ : Vm) (B : Pt), s.WarmedH vm₁ ∧ Stand p l e R s m args below meth c B.U B.locs B.cells B.slots ∧ PostX ⟨T.setVm vm₁, locs, cells, slots⟩ argsL.toArray q B ∧
      Steps p.tables e below (T.setTop g) ((B.U.setTop { g with stack := rest }).pushFrame (.throwing q))) := by
  obtain ⟨mk, hnamed⟩ := Cond.code_named hcode
  obtain ⟨methM, cM, hmethM, -, -, -, -, -, -, hsigM⟩ := Cond.code_spec hnamed hcode
  have hstatic : methM.isStatic = true := Cond.static_spec hnamed hmethM hstat
  obtain ⟨kP, hkP, -⟩ := className_of_methodNamed hnamed
  have hinitP : kP.init = .initialized := Cond.initialized_spec (findClass_of_methodNamed hnamed) hkP hinit
  obtain ⟨vm₁, X₁, hstep₁⟩ := X.invokestatic hexec hown hlink hnamed hmethM hstatic hkP hinitP hy (g := g) hg (argsL := argsL) (rest := rest) (hlen _ hsigM) hstack hdg
  rcases hK m meth c ⟨T.setVm vm₁, locs, cells, slots⟩ { g with stack := rest } (.invokestatic index) mk argsL.toArray X₁ hg hsize hdg hW (X₁.named hnamed) (hpre vm₁ X₁.warmed) with ⟨v, B, X', hpost, hsteps⟩ | ⟨q, B, X', hpost, hsteps⟩
  · exact Or.inl ⟨v, vm₁, B, X₁.warmed, X', hpost, fun target h => hstep₁ _ fun acts => by rw [doInvoke_state]; exact hsteps.trans h⟩
  · exact Or.inr ⟨q, vm₁, B, X₁.warmed, X', hpost, hstep₁ _ fun acts => by rw [doInvoke_state]; exact hsteps⟩
end Calls
theorem vx_cls {s : State} {T : State} {vm₁ : Vm} {E : String} {k : ClassId} (hW : s.WarmedH vm₁) (h : (T.setVm vm₁).vm.findClass E = some k) : s.vm.findClass E = some k := by
  have h1 : vm₁.findClass E = some k := h
  rw [hW.alike.findClass] at h1
  exact h1
/-- the method's frame g, with q thrown over it -/
def vx_W (p : Program) (l : Launch) (e : Env) (R : Room) (s : State) (m : MethodId) (args : Array Value) (below : List Frame) (meth : Method) (c : Code) (H : Heap) (locs : List Loc) (cells slots : Nat) (Q : State → Prop) (g : JFrame) (q : Addr) : Prop :=
  ∀ T : State, T.heap = H → Stand p l e R s m args below meth c T locs cells slots → ∃ t, Steps p.tables e below ((T.setTop g).pushFrame (.throwing q)) t ∧ Q t
def vx_Run (p : Program) (l : Launch) (e : Env) (R : Room) (s : State) (m : MethodId) (args : Array Value) (below : List Frame) (meth : Method) (c : Code) (H : Heap) (locs : List Loc) (cells slots mc ms : Nat) (g : JFrame) (rest : List Value) (Qa : State → Outcome → State → Prop) (XC : String → State → State → Prop) (free : Addr → Prop) : Prop :=
  ∀ T : State, T.heap = H → Stand p l e R s m args below meth c T locs cells slots →
    (∃ (v : Option Value) (st₀ t T' : State) (L : List Loc), st₀.heap = H ∧ Stand p l e R s m args below meth c T' (locs ++ L) (cells + mc) (slots + ms) ∧ (∀ q ∈ L, free q.base) ∧ T'.heap = t.heap ∧ T'.vm = t.vm ∧ Qa st₀ (.returned v) t ∧
      Goes p e below T g T' { g with pc := g.pc + 3, stack := v.toList ++ rest }) ∨
    (∃ (q : Addr) (st₀ t T' : State) (L : List Loc) (E : String) (ce : Cell), st₀.heap = H ∧ Stand p l e R s m args below meth c T' (locs ++ L) (cells + mc) (slots + ms) ∧ (∀ z ∈ L, free z.base) ∧ T'.heap = t.heap ∧ T'.vm = t.vm ∧ XC E st₀ t ∧ t.heap[q]? = some ce ∧ ce.vm = .none ∧ s.vm.findClass E = some ce.cls ∧
      Steps p.tables e below (T.setTop g) ((T'.setTop { g with stack := rest }).pushFrame (.throwing q)))
def vx_X {S : Type} (px : S → Prop) (B : String → S → State → Prop) (A : Nat → Prop) : String → State → State → Prop := fun E st t => ∃ u : S, px u ∧ B E u t ∧ va_F A st t
section Runs
variable {p : Program} {l : Launch} {e : Env} {R : Room} {s : State} {m : MethodId} {args : Array Value} {below : List Frame} {meth : Method} {c : Code} {H : Heap} {locs : List Loc} {cells slots : Nat}
variable {y : MethodName} {bytes cc : ByteArray} {maxL nL mc ms n index : Nat} {ret : Option FieldType} {ws : List Cond} {rm : Room} {Pc : Array Value → State → Prop} {Qc : Array Value → State → Outcome → State → Prop} {XC : String → State → State → Prop} {free : Addr → Prop} {Ts : List Cond} {own C : String} {b : Addr} {As rest : List Value} {g : JFrame}
theorem vx_callBack (cb : CallB R s args own index y bytes maxL ret ws rm mc ms n) (hM : vx_Met l y ws rm Pc Qc XC mc ms free) (hbl : FrameBlind Pc) : vx_Back l R p e below s args y 3 8 (PreOf R mc ms Pc) (PostOf Qc mc ms free) (vx_Post XC mc ms free) := by
  obtain ⟨hrc, hrs, hfr, hlo, hws, hcw, -, hini, -⟩ := cb
  exact vx_back (bytes := bytes) (maxL := maxL) (ret := ret) hM hbl hrc hrs hfr hlo hws hcw (fun a' U hW => word_at hW (Or.inl (by first | rfl | simp [Cond.onTables, Cond.keeps, Cond.steady])) hini)
theorem vx_runV (S : CallFix p m c cc nL s args Ts own) (hM : vx_Met l y ws rm Pc Qc XC mc ms free) (cw : CallW R s args own C index y bytes maxL ret ws rm mc ms n) (hp : PreV s H C b Pc As)
    (hg : g.method = m) (hn : As.length = n) (hsize : g.locals.size = nL) (hstack : g.stack = As.reverse ++ .ref b :: rest) (hW : 2 * g.monitorRoom + (rest.map fun v => v.category).sum ≤ 8) (hdg : decode cc g.pc = .ok (.invokevirtual index, 3)) (hf : cells + mc ≤ R.cells ∧ slots + ms ≤ R.slots) :
    vx_Run p l e R s m args below meth c H locs cells slots mc ms g rest (Qc (Value.ref b :: As).toArray) XC free := by
  have hK : vx_Back l R p e below s args y 3 8 (PreOf R mc ms Pc) (PostOf Qc mc ms free) (vx_Post XC mc ms free) := vx_callBack cw.1 hM hp.1
  obtain ⟨⟨-, -, -, -, -, -, hcode, -, hy, hlen, hl⟩, hin, hse⟩ := cw
  obtain ⟨hx, hb, hml, ho, -⟩ := S
  obtain ⟨-, ⟨cellB, hcB, hoB, hclB⟩, hPc⟩ := hp
  intro T hT X
  rcases vx_callV X hx (C := C) (bytes := bytes) (maxL := maxL) (ret := ret) ho hl hin hse hcode hy hK (by rw [hT]; exact hcB) hoB hclB hg (hsize.trans hml.symm) (argsL := As) (rest := rest) (fun sig h => hn.trans (hlen sig h)) hstack hW (by rw [hb]; exact hdg)
    (fun vm₁ hW₁ => ⟨hf.1, hf.2, hPc (T.setVm vm₁) hT hW₁⟩) with ⟨v, vm₁, ⟨U', l2, c2, s2⟩, hW₁, X', ⟨g', mk, t, L, e1, e2, hq, h1, hL, h2, h3⟩, st⟩ | ⟨q, vm₁, ⟨U', l2, c2, s2⟩, hW₁, X', ⟨g', mk, t, L, E, ce, e1, e2, hq, hce, hcv, hcl, h1, hL, h2, h3⟩, st⟩
  · dsimp only [Pt.U, Pt.locs, Pt.cells, Pt.slots] at X' e1 e2 h1 h2 h3 st
    subst h1; subst h2; subst h3
    exact Or.inl ⟨v, (T.setVm vm₁).calling g' mk (Value.ref b :: As).toArray, t, U', L, hT, X', hL, e1, e2, hq, st⟩
  · dsimp only [Pt.U, Pt.locs, Pt.cells, Pt.slots] at X' e1 e2 h1 h2 h3 st hcl
    subst h1; subst h2; subst h3
    exact Or.inr ⟨q, (T.setVm vm₁).calling g' mk (Value.ref b :: As).toArray, t, U', L, E, ce, hT, X', hL, e1, e2, hq, hce, hcv, vx_cls hW₁ hcl, st⟩
theorem vx_runS (S : CallFix p m c cc nL s args Ts own) (hM : vx_Met l y ws rm Pc Qc XC mc ms free) (cw : CallB R s args own index y bytes maxL ret ws rm mc ms n ∧ (Cond.static y).before args s = true) (hp : PreS s H Pc As)
    (hg : g.method = m) (hn : As.length = n) (hsize : g.locals.size = nL) (hstack : g.stack = As.reverse ++ rest) (hW : 2 * g.monitorRoom + (rest.map fun v => v.category).sum ≤ 8) (hdg : decode cc g.pc = .ok (.invokestatic index, 3)) (hf : cells + mc ≤ R.cells ∧ slots + ms ≤ R.slots) :
    vx_Run p l e R s m args below meth c H locs cells slots mc ms g rest (Qc As.toArray) XC free := by
  have hK : vx_Back l R p e below s args y 3 8 (PreOf R mc ms Pc) (PostOf Qc mc ms free) (vx_Post XC mc ms free) := vx_callBack cw.1 hM hp.1
  obtain ⟨⟨-, -, -, -, -, -, hcode, hini, hy, hlen, hl⟩, hstt⟩ := cw
  obtain ⟨hx, hb, hml, ho, -⟩ := S
  intro T hT X
  rcases vx_callS X hx (bytes := bytes) (maxL := maxL) (ret := ret) ho hl hstt hini hcode hy hK hg (hsize.trans hml.symm) (argsL := As) (rest := rest) (fun sig h => hn.trans (hlen sig h)) hstack hW (by rw [hb]; exact hdg)
    (fun vm₁ hW₁ => ⟨hf.1, hf.2, hp.2 (T.setVm vm₁) hT hW₁⟩) with ⟨v, vm₁, ⟨U', l2, c2, s2⟩, hW₁, X', ⟨g', mk, t, L, e1, e2, hq, h1, hL, h2, h3⟩, st⟩ | ⟨q, vm₁, ⟨U', l2, c2, s2⟩, hW₁, X', ⟨g', mk, t, L, E, ce, e1, e2, hq, hce, hcv, hcl, h1, hL, h2, h3⟩, st⟩
  · dsimp only [Pt.U, Pt.locs, Pt.cells, Pt.slots] at X' e1 e2 h1 h2 h3 st
    subst h1; subst h2; subst h3
    exact Or.inl ⟨v, (T.setVm vm₁).calling g' mk As.toArray, t, U', L, hT, X', hL, e1, e2, hq, st⟩
  · dsimp only [Pt.U, Pt.locs, Pt.cells, Pt.slots] at X' e1 e2 h1 h2 h3 st hcl
    subst h1; subst h2; subst h3
    exact Or.inr ⟨q, (T.setVm vm₁).calling g' mk As.toArray, t, U', L, E, ce, hT, X', hL, e1, e2, hq, hce, hcv, vx_cls hW₁ hcl, st⟩
end Runs
section Rows
variable {p : Program} {l : Launch} {e : Env} {R : Room} {s : State} {m : MethodId} {args : Array Value} {below : List Frame} {meth : Method} {c : Code} {H : Heap} {locs : List Loc} {cells slots : Nat} {Q : State → Prop}
variable {mc ms : Nat} {free : Addr → Prop} {A0 A1 : Nat → Prop} {H0 : Heap} {a : Array Value} {pc : Nat} {ls : Array Slot} {st0 rest : List Value}
theorem vx_keep {st₀ t T' : State} {L : List Loc} (h0 : st₀.heap = H) (e1 : T'.heap = t.heap) (hS : va_S A0 H0 H locs) (hA : ∀ q, q < H.size → A1 q → A0 q) (hf : ∀ q, free q → A0 q) (hL : ∀ q ∈ L, free q.base) (hF : va_F A1 st₀ t) :
    H.size ≤ T'.heap.size ∧ (∀ q : Nat, q < H.size → ¬ A1 q → T'.heap[q]? = H[q]?) ∧ va_S A0 H0 T'.heap (locs ++ L) := by
  obtain ⟨hz, hk⟩ := hF
  rw [h0] at hz hk
  exact ⟨by rw [e1]; exact hz, fun q h1 h2 => by rw [e1]; exact hk q h1 h2,
    ⟨Nat.le_trans hS.1 (by rw [e1]; exact hz), fun q h1 h2 => by rw [e1, hk q (Nat.lt_of_lt_of_le h1 hS.1) (fun z => h2 (hA q (Nat.lt_of_lt_of_le h1 hS.1) z))]; exact hS.2.1 q h1 h2, fun q hq => by
      rcases List.mem_append.mp hq with h | h
      · exact hS.2.2 q h
      · exact hf _ (hL q h)⟩⟩
theorem vx_calli {S SX : Type} {post : Int32 → S → Prop} {px : SX → Prop} {B : S → State → Prop} {BX : String → SX → State → Prop} {AX : Nat → Prop} (hr : vx_Run p l e R s m args below meth c H locs cells slots mc ms (F0 m pc ls st0) rest (va_Qi post B A1 a) (vx_X px BX AX) free) (hS : va_S A0 H0 H locs) (hA : ∀ q, q < H.size → A1 q → A0 q) (hf : ∀ q, free q → A0 q) (hAX : ∀ q, q < H.size → AX q → A0 q)
    (kx : ∀ (E : String) (ce : Cell) (q9 : Addr) (u : SX) (t : State) (H1 : Heap) (locs1 : List Loc), t.heap = H1 → s.vm.Alike t.vm → px u → BX E u t → H.size ≤ H1.size → (∀ q : Nat, q < H.size → ¬ AX q → H1[q]? = H[q]?) → va_S A0 H0 H1 locs1 → H1[q9]? = some ce → ce.vm = .none → s.vm.findClass E = some ce.cls → vx_W p l e R s m args below meth c H1 locs1 (cells + mc) (slots + ms) Q (F0 m pc ls rest) q9)
    (kk : ∀ (r : Int32) (u : S) (t : State) (H1 : Heap) (locs1 : List Loc), t.heap = H1 → s.vm.Alike t.vm → post r u → B u t → H.size ≤ H1.size → (∀ q : Nat, q < H.size → ¬ A1 q → H1[q]? = H[q]?) → va_S A0 H0 H1 locs1 → W p l e R s m args below meth c H1 locs1 (cells + mc) (slots + ms) Q (F0 m (pc + 3) ls (.int r :: rest))) : W p l e R s m args below meth c H locs cells slots Q (F0 m pc ls st0) := by
  intro T hT X
  rcases hr T hT X with ⟨v, st₀, t, T', L, h0, X', hL, e1, e2, ⟨⟨r, u, hv, hp, hb⟩, hF⟩, st⟩ | ⟨q, st₀, t, T', L, E, ce, h0, X', hL, e1, e2, ⟨u, hp, hb, hF⟩, hce, hcv, hcl, st⟩
  · cases hv
    obtain ⟨k1, k2, k3⟩ := vx_keep h0 e1 hS hA hf hL hF
    obtain ⟨t2, a1, b1⟩ := kk r u t T'.heap (locs ++ L) e1.symm (by rw [← e2]; exact X'.warmed.alike) hp hb k1 k2 k3 T' rfl X'
    exact ⟨t2, st t2 a1, b1⟩
  · obtain ⟨k1, k2, k3⟩ := vx_keep h0 e1 hS hAX hf hL hF
    obtain ⟨t2, a1, b1⟩ := kx E ce q u t T'.heap (locs ++ L) e1.symm (by rw [← e2]; exact X'.warmed.alike) hp hb k1 k2 k3 (by rw [e1]; exact hce) hcv hcl T' rfl X'
    exact ⟨t2, st.trans a1, b1⟩
theorem vx_calll {S SX : Type} {post : Int64 → S → Prop} {px : SX → Prop} {B : S → State → Prop} {BX : String → SX → State → Prop} {AX : Nat → Prop} (hr : vx_Run p l e R s m args below meth c H locs cells slots mc ms (F0 m pc ls st0) rest (va_Ql post B A1 a) (vx_X px BX AX) free) (hS : va_S A0 H0 H locs) (hA : ∀ q, q < H.size → A1 q → A0 q) (hf : ∀ q, free q → A0 q) (hAX : ∀ q, q < H.size → AX q → A0 q)
    (kx : ∀ (E : String) (ce : Cell) (q9 : Addr) (u : SX) (t : State) (H1 : Heap) (locs1 : List Loc), t.heap = H1 → s.vm.Alike t.vm → px u → BX E u t → H.size ≤ H1.size → (∀ q : Nat, q < H.size → ¬ AX q → H1[q]? = H[q]?) → va_S A0 H0 H1 locs1 → H1[q9]? = some ce → ce.vm = .none → s.vm.findClass E = some ce.cls → vx_W p l e R s m args below meth c H1 locs1 (cells + mc) (slots + ms) Q (F0 m pc ls rest) q9)
    (kk : ∀ (r : Int64) (u : S) (t : State) (H1 : Heap) (locs1 : List Loc), t.heap = H1 → s.vm.Alike t.vm → post r u → B u t → H.size ≤ H1.size → (∀ q : Nat, q < H.size → ¬ A1 q → H1[q]? = H[q]?) → va_S A0 H0 H1 locs1 → W p l e R s m args below meth c H1 locs1 (cells + mc) (slots + ms) Q (F0 m (pc + 3) ls (.long r :: rest))) : W p l e R s m args below meth c H locs cells slots Q (F0 m pc ls st0) := by
  intro T hT X
  rcases hr T hT X with ⟨v, st₀, t, T', L, h0, X', hL, e1, e2, ⟨⟨r, u, hv, hp, hb⟩, hF⟩, st⟩ | ⟨q, st₀, t, T', L, E, ce, h0, X', hL, e1, e2, ⟨u, hp, hb, hF⟩, hce, hcv, hcl, st⟩
  · cases hv
    obtain ⟨k1, k2, k3⟩ := vx_keep h0 e1 hS hA hf hL hF
    obtain ⟨t2, a1, b1⟩ := kk r u t T'.heap (locs ++ L) e1.symm (by rw [← e2]; exact X'.warmed.alike) hp hb k1 k2 k3 T' rfl X'
    exact ⟨t2, st t2 a1, b1⟩
  · obtain ⟨k1, k2, k3⟩ := vx_keep h0 e1 hS hAX hf hL hF
    obtain ⟨t2, a1, b1⟩ := kx E ce q u t T'.heap (locs ++ L) e1.symm (by rw [← e2]; exact X'.warmed.alike) hp hb k1 k2 k3 (by rw [e1]; exact hce) hcv hcl T' rfl X'
    exact ⟨t2, st.trans a1, b1⟩
theorem vx_callf {S SX : Type} {post : UInt32 → S → Prop} {px : SX → Prop} {B : S → State → Prop} {BX : String → SX → State → Prop} {AX : Nat → Prop} (hr : vx_Run p l e R s m args below meth c H locs cells slots mc ms (F0 m pc ls st0) rest (va_Qf post B A1 a) (vx_X px BX AX) free) (hS : va_S A0 H0 H locs) (hA : ∀ q, q < H.size → A1 q → A0 q) (hf : ∀ q, free q → A0 q) (hAX : ∀ q, q < H.size → AX q → A0 q)
    (kx : ∀ (E : String) (ce : Cell) (q9 : Addr) (u : SX) (t : State) (H1 : Heap) (locs1 : List Loc), t.heap = H1 → s.vm.Alike t.vm → px u → BX E u t → H.size ≤ H1.size → (∀ q : Nat, q < H.size → ¬ AX q → H1[q]? = H[q]?) → va_S A0 H0 H1 locs1 → H1[q9]? = some ce → ce.vm = .none → s.vm.findClass E = some ce.cls → vx_W p l e R s m args below meth c H1 locs1 (cells + mc) (slots + ms) Q (F0 m pc ls rest) q9)
    (kk : ∀ (r : UInt32) (u : S) (t : State) (H1 : Heap) (locs1 : List Loc), t.heap = H1 → s.vm.Alike t.vm → post r u → B u t → H.size ≤ H1.size → (∀ q : Nat, q < H.size → ¬ A1 q → H1[q]? = H[q]?) → va_S A0 H0 H1 locs1 → W p l e R s m args below meth c H1 locs1 (cells + mc) (slots + ms) Q (F0 m (pc + 3) ls (.float r :: rest))) : W p l e R s m args below meth c H locs cells slots Q (F0 m pc ls st0) := by
  intro T hT X
  rcases hr T hT X with ⟨v, st₀, t, T', L, h0, X', hL, e1, e2, ⟨⟨r, u, hv, hp, hb⟩, hF⟩, st⟩ | ⟨q, st₀, t, T', L, E, ce, h0, X', hL, e1, e2, ⟨u, hp, hb, hF⟩, hce, hcv, hcl, st⟩
  · cases hv
    obtain ⟨k1, k2, k3⟩ := vx_keep h0 e1 hS hA hf hL hF
    obtain ⟨t2, a1, b1⟩ := kk r u t T'.heap (locs ++ L) e1.symm (by rw [← e2]; exact X'.warmed.alike) hp hb k1 k2 k3 T' rfl X'
    exact ⟨t2, st t2 a1, b1⟩
  · obtain ⟨k1, k2, k3⟩ := vx_keep h0 e1 hS hAX hf hL hF
    obtain ⟨t2, a1, b1⟩ := kx E ce q u t T'.heap (locs ++ L) e1.symm (by rw [← e2]; exact X'.warmed.alike) hp hb k1 k2 k3 (by rw [e1]; exact hce) hcv hcl T' rfl X'
    exact ⟨t2, st.trans a1, b1⟩
theorem vx_calld {S SX : Type} {post : UInt64 → S → Prop} {px : SX → Prop} {B : S → State → Prop} {BX : String → SX → State → Prop} {AX : Nat → Prop} (hr : vx_Run p l e R s m args below meth c H locs cells slots mc ms (F0 m pc ls st0) rest (va_Qd post B A1 a) (vx_X px BX AX) free) (hS : va_S A0 H0 H locs) (hA : ∀ q, q < H.size → A1 q → A0 q) (hf : ∀ q, free q → A0 q) (hAX : ∀ q, q < H.size → AX q → A0 q)
    (kx : ∀ (E : String) (ce : Cell) (q9 : Addr) (u : SX) (t : State) (H1 : Heap) (locs1 : List Loc), t.heap = H1 → s.vm.Alike t.vm → px u → BX E u t → H.size ≤ H1.size → (∀ q : Nat, q < H.size → ¬ AX q → H1[q]? = H[q]?) → va_S A0 H0 H1 locs1 → H1[q9]? = some ce → ce.vm = .none → s.vm.findClass E = some ce.cls → vx_W p l e R s m args below meth c H1 locs1 (cells + mc) (slots + ms) Q (F0 m pc ls rest) q9)
    (kk : ∀ (r : UInt64) (u : S) (t : State) (H1 : Heap) (locs1 : List Loc), t.heap = H1 → s.vm.Alike t.vm → post r u → B u t → H.size ≤ H1.size → (∀ q : Nat, q < H.size → ¬ A1 q → H1[q]? = H[q]?) → va_S A0 H0 H1 locs1 → W p l e R s m args below meth c H1 locs1 (cells + mc) (slots + ms) Q (F0 m (pc + 3) ls (.double r :: rest))) : W p l e R s m args below meth c H locs cells slots Q (F0 m pc ls st0) := by
  intro T hT X
  rcases hr T hT X with ⟨v, st₀, t, T', L, h0, X', hL, e1, e2, ⟨⟨r, u, hv, hp, hb⟩, hF⟩, st⟩ | ⟨q, st₀, t, T', L, E, ce, h0, X', hL, e1, e2, ⟨u, hp, hb, hF⟩, hce, hcv, hcl, st⟩
  · cases hv
    obtain ⟨k1, k2, k3⟩ := vx_keep h0 e1 hS hA hf hL hF
    obtain ⟨t2, a1, b1⟩ := kk r u t T'.heap (locs ++ L) e1.symm (by rw [← e2]; exact X'.warmed.alike) hp hb k1 k2 k3 T' rfl X'
    exact ⟨t2, st t2 a1, b1⟩
  · obtain ⟨k1, k2, k3⟩ := vx_keep h0 e1 hS hAX hf hL hF
    obtain ⟨t2, a1, b1⟩ := kx E ce q u t T'.heap (locs ++ L) e1.symm (by rw [← e2]; exact X'.warmed.alike) hp hb k1 k2 k3 (by rw [e1]; exact hce) hcv hcl T' rfl X'
    exact ⟨t2, st.trans a1, b1⟩
theorem vx_callv {S SX : Type} {post : S → Prop} {px : SX → Prop} {B : S → State → Prop} {BX : String → SX → State → Prop} {AX : Nat → Prop} (hr : vx_Run p l e R s m args below meth c H locs cells slots mc ms (F0 m pc ls st0) rest (va_Qv post B A1 a) (vx_X px BX AX) free) (hS : va_S A0 H0 H locs) (hA : ∀ q, q < H.size → A1 q → A0 q) (hf : ∀ q, free q → A0 q) (hAX : ∀ q, q < H.size → AX q → A0 q)
    (kx : ∀ (E : String) (ce : Cell) (q9 : Addr) (u : SX) (t : State) (H1 : Heap) (locs1 : List Loc), t.heap = H1 → s.vm.Alike t.vm → px u → BX E u t → H.size ≤ H1.size → (∀ q : Nat, q < H.size → ¬ AX q → H1[q]? = H[q]?) → va_S A0 H0 H1 locs1 → H1[q9]? = some ce → ce.vm = .none → s.vm.findClass E = some ce.cls → vx_W p l e R s m args below meth c H1 locs1 (cells + mc) (slots + ms) Q (F0 m pc ls rest) q9)
    (kk : ∀ (u : S) (t : State) (H1 : Heap) (locs1 : List Loc), t.heap = H1 → s.vm.Alike t.vm → post u → B u t → H.size ≤ H1.size → (∀ q : Nat, q < H.size → ¬ A1 q → H1[q]? = H[q]?) → va_S A0 H0 H1 locs1 → W p l e R s m args below meth c H1 locs1 (cells + mc) (slots + ms) Q (F0 m (pc + 3) ls (rest))) : W p l e R s m args below meth c H locs cells slots Q (F0 m pc ls st0) := by
  intro T hT X
  rcases hr T hT X with ⟨v, st₀, t, T', L, h0, X', hL, e1, e2, ⟨⟨u, hv, hp, hb⟩, hF⟩, st⟩ | ⟨q, st₀, t, T', L, E, ce, h0, X', hL, e1, e2, ⟨u, hp, hb, hF⟩, hce, hcv, hcl, st⟩
  · cases hv
    obtain ⟨k1, k2, k3⟩ := vx_keep h0 e1 hS hA hf hL hF
    obtain ⟨t2, a1, b1⟩ := kk u t T'.heap (locs ++ L) e1.symm (by rw [← e2]; exact X'.warmed.alike) hp hb k1 k2 k3 T' rfl X'
    exact ⟨t2, st t2 a1, b1⟩
  · obtain ⟨k1, k2, k3⟩ := vx_keep h0 e1 hS hAX hf hL hF
    obtain ⟨t2, a1, b1⟩ := kx E ce q u t T'.heap (locs ++ L) e1.symm (by rw [← e2]; exact X'.warmed.alike) hp hb k1 k2 k3 (by rw [e1]; exact hce) hcv hcl T' rfl X'
    exact ⟨t2, st.trans a1, b1⟩
/-- caught by the row x of this method's table; the rows ahead don't take it -/
theorem vx_catch {own name : String} {E : String} {ce : Cell} {q : Addr} (hown : s.vm.findClass own = some m.cls) (pre : List ExceptionTableEntry) (x : ExceptionTableEntry) (suf : List ExceptionTableEntry) (hsplit : c.exceptionTable.toList = pre ++ x :: suf)
    (hpass : ∀ z ∈ pre, covers z pc = false ∨ (z.catchType ≠ 0 ∧ ∃ nm : String, (Cond.classLink own z.catchType nm).before args s = true ∧ va_Nc E nm s)) (hx : covers x pc = true) (h0 : x.catchType ≠ 0)
    (hlink : (Cond.classLink own x.catchType name).before args s = true) (hcast : (Cond.castable E name).before args s = true) (hcell : H[q]? = some ce) (hv : ce.vm = .none) (hcl : s.vm.findClass E = some ce.cls)
    (kk : W p l e R s m args below meth c H locs cells slots Q (F0 m x.handlerPc ls [.ref q])) : vx_W p l e R s m args below meth c H locs cells slots Q (F0 m pc ls rest) q := by
  intro T hT X
  have hpl : e.platform.magicAccessors = ({} : Platform).magicAccessors := by rw [X.admits.platform]
  obtain ⟨c3, c4, hc3, hc4, hasg⟩ := Cond.castable_spec hcast
  cases Option.some.inj (hc3.symm.trans hcl)
  obtain ⟨c5, hc5, hcl5⟩ := Cond.classLink_spec hown hlink e.platform hpl
  cases Option.some.inj (hc4.symm.trans hc5)
  obtain ⟨vm', X', st⟩ := X.thenCaughtThrough q (g := F0 m pc ls rest) rfl (Steps.refl _) (by rw [hT]; exact hcell) (by rw [hv]; rfl) (by obtain ⟨k9, h9, -⟩ := Vm.findClass_spec hcl; exact ⟨k9, h9⟩) pre x suf hsplit
    (fun z hz => by
      rcases hpass z hz with h | ⟨hz0, nm, hl1, hn1⟩
      · exact Or.inl h
      · obtain ⟨c6, hc6, hcl6⟩ := Cond.classLink_spec hown hl1 e.platform hpl
        obtain ⟨a8, b8, h1, h2, h3⟩ := hn1
        cases Option.some.inj (h1.symm.trans hcl)
        cases Option.some.inj (h2.symm.trans hc6)
        exact Or.inr ⟨hz0, _, hcl6, h3⟩) hx (Or.inr ⟨h0, c4, hcl5, hasg⟩)
  obtain ⟨t, a1, b1⟩ := kk (T.setVm vm') hT X'
  exact ⟨t, st.trans a1, b1⟩
end Rows
section Ends
variable {p : Program} {l : Launch} {e : Env} {R : Room} {s : State} {m : MethodId} {args : Array Value} {below : List Frame} {meth : Method} {c : Code} {H : Heap} {locs : List Loc} {cells slots : Nat} {Q : State → Prop}
variable {mc ms : Nat} {free : Addr → Prop} {A0 A1 : Nat → Prop} {H0 : Heap} {a : Array Value} {ls : Array Slot} {st0 rest : List Value}
variable {Qc : Array Value → State → Outcome → State → Prop} {XC : String → State → State → Prop}
/-- what a body that may throw owes at its end -/
def vx_MQ (below : List Frame) (Qc : Array Value → State → Outcome → State → Prop) (XC : String → State → State → Prop) (a : Array Value) (s : State) (mc ms : Nat) (free : Addr → Prop) : State → Prop := fun t =>
  ∃ o, t.status = .running ∧ Ended t below o ∧ vx_Q Qc XC mc ms free a s o t
theorem vx_ret {g : JFrame} {mc ms : Nat} (k : W p l e R s m args below meth c H locs cells slots (MQ below Qc args s mc ms free) g) : W p l e R s m args below meth c H locs cells slots (vx_MQ below Qc XC args s mc ms free) g := by
  intro T hT X
  obtain ⟨t, a1, o, b1, b2, b3, b4⟩ := k T hT X
  exact ⟨t, a1, o, b1, b2, Or.inl ⟨b3, b4⟩⟩
/-- not caught here: it goes on to the caller -/
theorem vx_widen {g : JFrame} {q : Addr} {k n : Nat} (h1 : cells ≤ k) (h2 : slots ≤ n) (kk : vx_W p l e R s m args below meth c H locs k n Q g q) : vx_W p l e R s m args below meth c H locs cells slots Q g q := fun T hT X => kk T hT (stand_widen X h1 h2)
theorem vx_out {pc : Nat} {E : String} {ce : Cell} {q : Addr} {mc ms : Nat} (hout : ∀ x ∈ c.exceptionTable.toList, covers x pc = false) (hlocks : meth.locks = false) (hcell : H[q]? = some ce) (hv : ce.vm = .none) (hcl : s.vm.findClass E = some ce.cls)
    (hx : ∀ t : State, t.heap = H → s.vm.Alike t.vm → XC E s t) (hf : ∀ z ∈ locs, free z.base) (hc : cells ≤ mc) (hs : slots ≤ ms) :
    vx_W p l e R s m args below meth c H locs cells slots (vx_MQ below Qc XC args s mc ms free) (F0 m pc ls rest) q := by
  intro T hT X
  obtain ⟨st1, hrun, hend, hW, hsm⟩ := X.leaveThrown q (g := F0 m pc ls rest) rfl rfl rfl hout hlocks
  have hcell9 : (T.setFrames (.throwing q :: below)).heap[q]? = some ce := by
    show T.heap[q]? = some ce
    rw [hT]; exact hcell
  exact ⟨_, st1, .threw q, hrun, hend, Or.inr ⟨q, rfl, E, ce, locs, hx _ hT hW.alike, hcell9, hv, hcl, hW, hsm.mono hc hs, hf⟩⟩
theorem vx_frame {U : State} {k n : Nat} (h : s.sameButNew ({ U with vm := s.vm } : State) locs k n) : s.heap.size ≤ U.heap.size ∧ ∀ q : Nat, q < s.heap.size → (∀ z ∈ locs, z.base ≠ q) → U.heap[q]? = s.heap[q]? := by
  obtain ⟨-, h2, -, -, -, h6⟩ := h
  refine ⟨h2, fun q hq hz => ?_⟩
  obtain ⟨c9, e1, e2, e3, e4⟩ := h6 q _ (Array.getElem?_eq_getElem hq)
  have hs : c9.slots = (s.heap[q]).slots := Array.ext_getElem? fun i => e4 i fun hm => hz _ hm rfl
  have h9 : c9 = s.heap[q] := by
    rw [hs] at e2
    exact e2
  have e5 : U.heap[q]? = some c9 := e1
  rw [e5, h9, Array.getElem?_eq_getElem hq]
/-- the words of a throw but the four that speak of the heap -/
def vx_no (w : Cond) : Bool := decide (w ≠ .isRef (.static tN "UNASSIGNED_STACK" steD)) && decide (w ≠ .isRef (.static tN "SUPPRESSED_SENTINEL" listD)) && decide (w ≠ .laysStatic tN "UNASSIGNED_STACK" steD) && decide (w ≠ .laysStatic tN "SUPPRESSED_SENTINEL" listD)
def vx_at0 (own : String) (ic : Nat) (X : String) (names : List String) : List Cond := (ownAtoms0 own ic X names).filter vx_no
def vx_atS (own : String) (ic : Nat) (X : String) (names : List String) : List Cond := (ownAtoms own ic X names).filter vx_no
/-- a word that the tables alone decide, or a good one -/
def vx_ot (w : Cond) : Bool := w.onTables || goodWord w
theorem vx_ot_at {args a' : Array Value} {s U : State} {w : Cond} (hW : s.WarmedH U.vm) (hvm : s.vm = U.vm) (hg : vx_ot w = true) (h : w.before args s = true) : w.before a' U = true := by
  simp only [vx_ot, Bool.or_eq_true] at hg
  rcases hg with hg | hg
  · exact va_tabs hg hvm h
  · exact word_at hW (good_of_word hg) h
/-- a list's words: the good ones out of the method's own list, the others by premises of their own -/
theorem vx_hat {args : Array Value} {s : State} {L B : List Cond} (h1 : ∀ w ∈ L.filter goodWord, w.before args s = true) (h2 : ∀ w ∈ L.filter (fun w => !goodWord w), w ∈ B) (h3 : ∀ w ∈ B, w.before args s = true) : ∀ w ∈ L, w.before args s = true := by
  intro w hw
  by_cases g : goodWord w = true
  · exact h1 w (List.mem_filter.mpr ⟨hw, g⟩)
  · refine h3 w (h2 w (List.mem_filter.mpr ⟨hw, ?_⟩))
    show (!goodWord w) = true
    cases hgw : goodWord w
    · rfl
    · exact absurd hgw g
theorem vx_c {args : Array Value} {s : State} {w : Cond} {B : List Cond} (h : w.before args s = true) (t : ∀ w ∈ B, w.before args s = true) : ∀ w' ∈ w :: B, w'.before args s = true := fun w' h' => (List.mem_cons.mp h').elim (fun e => by rw [e]; exact h) (t w')
theorem vx_n {args : Array Value} {s : State} : ∀ w ∈ ([] : List Cond), w.before args s = true := fun _ h => nomatch h
theorem vx_own {args : Array Value} {s : State} {L : List Cond} (h1 : ∀ w ∈ L.filter vx_no, w.before args s = true)
    (hU : (Cond.isRef (.static tN "UNASSIGNED_STACK" steD)).before args s = true) (hN : (Cond.isRef (.static tN "SUPPRESSED_SENTINEL" listD)).before args s = true)
    (lU : (Cond.laysStatic tN "UNASSIGNED_STACK" steD).before args s = true) (lN : (Cond.laysStatic tN "SUPPRESSED_SENTINEL" listD).before args s = true) : ∀ w ∈ L, w.before args s = true := by
  intro w hw
  by_cases e1 : w = .isRef (.static tN "UNASSIGNED_STACK" steD)
  · rw [e1]; exact hU
  · by_cases e2 : w = .isRef (.static tN "SUPPRESSED_SENTINEL" listD)
    · rw [e2]; exact hN
    · by_cases e3 : w = .laysStatic tN "UNASSIGNED_STACK" steD
      · rw [e3]; exact lU
      · by_cases e4 : w = .laysStatic tN "SUPPRESSED_SENTINEL" listD
        · rw [e4]; exact lN
        · exact h1 w (List.mem_filter.mpr ⟨hw, by unfold vx_no; rw [decide_eq_true e1, decide_eq_true e2, decide_eq_true e3, decide_eq_true e4]; rfl⟩)
/-- where a static field lies, its class's statics cell in H -/
def vx_L (C n d : String) (A : Nat → Prop) (U : State) (H : Heap) : Prop := ∃ (c : ClassId) (k : Class) (i : Nat) (f : Field) (a : Nat) (cell : Cell), U.vm.findClass C = some c ∧ U.fieldFound? C n d = some (c, k, i, f) ∧ f.isStatic = true ∧ k.statics = some a ∧ H[a]? = some cell ∧ cell.vm.isStatics = true ∧ cell.cls = c ∧ f.slot < cell.slots.size ∧ k.staticTypes[f.slot]? = some f.type ∧ ¬ A a
theorem vx_L.moved {C n d : String} {A : Nat → Prop} {u U : State} {H : Heap} (hvm : u.vm.Alike U.vm) (h : vx_L C n d A u H) : vx_L C n d A U H := by
  obtain ⟨c, k, i, f, a, cell, h1, h2, h3, h4, h5, h6, h7, h8, h9, h10⟩ := h
  obtain ⟨k', hi', he⟩ := State.fieldFound?_setVm hvm h2
  exact ⟨c, k', i, f, a, cell, by rw [hvm.findClass]; exact h1, hi', h3, by rw [he]; exact h4, h5, h6, h7, h8, by rw [he]; exact h9, h10⟩
theorem vx_L.kept {C n d : String} {A : Nat → Prop} {U : State} {H H1 : Heap} (h : vx_L C n d A U H) (hq : ∀ a : Nat, a < H.size → ¬ A a → H1[a]? = H[a]?) : vx_L C n d A U H1 := by
  obtain ⟨c, k, i, f, a, cell, h1, h2, h3, h4, h5, h6, h7, h8, h9, h10⟩ := h
  exact ⟨c, k, i, f, a, cell, h1, h2, h3, h4, by rw [hq a (Array.getElem?_eq_some_iff.mp h5).1 h10]; exact h5, h6, h7, h8, h9, h10⟩
theorem vx_L.narrow {C n d : String} {A B : Nat → Prop} {U : State} {H : Heap} (h : vx_L C n d A U H) (hAB : ∀ q, B q → A q) : vx_L C n d B U H := by
  obtain ⟨c, k, i, f, a, cell, h1, h2, h3, h4, h5, h6, h7, h8, h9, h10⟩ := h
  exact ⟨c, k, i, f, a, cell, h1, h2, h3, h4, h5, h6, h7, h8, h9, fun z => h10 (hAB _ z)⟩
theorem vx_L.word {C n d : String} {A : Nat → Prop} {s : State} {args : Array Value} (h : vx_L C n d A s s.heap) : (Cond.laysStatic C n d).before args s = true := by
  obtain ⟨c, k, i, f, a, cell, h1, h2, h3, h4, h5, h6, h7, h8, h9, -⟩ := h
  show (Cond.laysStatic C n d).holds args s none s [] = true
  exact Cond.laysStatic_of h1 h2 h3 h4 h5 h6 h7 h8 h9
/-- .. and what it holds: null or some reference -/
def vx_Zq (C n d : String) (A : Nat → Prop) (U : State) (H : Heap) : Prop := va_Zq C n d A U H ∧ vx_L C n d A U H
theorem vx_Zq.moved {C n d : String} {A : Nat → Prop} {u U : State} {H : Heap} (hvm : u.vm.Alike U.vm) (h : vx_Zq C n d A u H) : vx_Zq C n d A U H := ⟨va_Zq.moved hvm h.1, vx_L.moved hvm h.2⟩
theorem vx_Zq.kept {C n d : String} {A : Nat → Prop} {U : State} {H H1 : Heap} (h : vx_Zq C n d A U H) (hq : ∀ a : Nat, a < H.size → ¬ A a → H1[a]? = H[a]?) : vx_Zq C n d A U H1 := ⟨va_Zq.kept h.1 hq, vx_L.kept h.2 hq⟩
theorem vx_Zq.narrow {C n d : String} {A B : Nat → Prop} {U : State} {H : Heap} (h : vx_Zq C n d A U H) (hAB : ∀ q, B q → A q) : vx_Zq C n d B U H := ⟨va_Zq.narrow h.1 hAB, vx_L.narrow h.2 hAB⟩
theorem vx_Zqof {args : Array Value} {s : State} {C n d : String} {A : Nat → Prop} (hl : (Cond.laysStatic C n d).before args s = true) (hini : (Cond.initialized C).before args s = true) (h : (Cond.isRef (.static C n d)).before args s = true) (hA : ∀ a : Nat, a < s.heap.size → ¬ A a) : vx_Zq C n d A s s.heap := by
  refine ⟨va_Zqof hl hini h hA, ?_⟩
  obtain ⟨c, k, i, f, a, cell, h1, h2, h3, h4, h5, h6, h7, h8, h9⟩ := Cond.laysStatic_spec hl
  exact ⟨c, k, i, f, a, cell, h1, h2, h3, h4, h5, h6, h7, h8, h9, hA a (Array.getElem?_eq_some_iff.mp h5).1⟩
theorem vx_isRef {C n d : String} {v : Value} {A : Nat → Prop} {s : State} {args : Array Value} (h : va_Z C n d v A s s.heap) (hv : v.isRef = true) : (Cond.isRef (.static C n d)).before args s = true := by
  obtain ⟨cf, kf, fi, f, a, cell, h1, h2, h3, h4, h5, h6, h7, -⟩ := h
  have he : (Term.static C n d).eval args s none [] s = some v := by
    simp [Term.eval, State.fieldNamed?, h1, h2, h4, h5, h6, h7]
  simp only [Cond.before, Cond.holds, Cond.value, he]
  cases v <;> simp_all [Value.isRef]
theorem vx_isRefq {C n d : String} {A : Nat → Prop} {s : State} {args : Array Value} (h : va_Zq C n d A s s.heap) : (Cond.isRef (.static C n d)).before args s = true := by
  rcases h with h | ⟨t, h⟩
  · exact vx_isRef h rfl
  · exact vx_isRef h rfl
/-- the same frame, seen from here: as if the method were called anew in this heap -/
theorem vx_rebase {T : State} (X : Stand p l e R s m args below meth c T locs cells slots) {R' : Room} (hf : R'.frames ≤ R.frames) (hl : R'.locals ≤ R.locals) (hc : cells + R'.cells ≤ R.cells) (hs : slots + R'.slots ≤ R.slots) :
    Stand p l e R' ((T.setVm s.vm).setFrames (.invoking m args :: below)) m args below meth c T [] 0 0 := by
  have htop : (T.setVm s.vm).topJava?.isSome := X.here.top
  have hF : ((T.setVm s.vm).setFrames (.invoking m args :: below)).frames = .invoking m args :: below := State.frames_setFrames _ (State.cur_lt_of_top htop)
  obtain ⟨g₀, hg0⟩ := Option.isSome_iff_exists.mp htop
  obtain ⟨r, hr⟩ := State.topJava?_eq_some.mp hg0
  have hl9 : e.platform.stackLimits (T.setVm s.vm).me = e.platform.stackLimits s.me := X.limits
  have hb9 : (T.setVm s.vm).me.stackBytes = s.me.stackBytes := X.bytes
  refine ⟨X.admits, X.cas, X.clock, hF, ?_, X.hears, X.method, X.code, X.here, X.tail, X.warmed, ?_, ?_, ?_⟩
  · have h := X.room
    have hU : ((T.setVm s.vm).setFrames (.invoking m args :: below)).localsInUse = s.localsInUse := by
      rw [State.localsInUse_invoking hF (meth := meth) (c := c) X.method X.code, State.localsInUse_invoking X.frames X.method X.code]
    simp only [State.hasRoom, Bool.and_eq_true, decide_eq_true_eq] at h ⊢
    obtain ⟨⟨⟨⟨h1, h2, h3, h4, h5, h6⟩, h7⟩, h8⟩, h9⟩ := h
    rw [X.frames, List.length_cons] at h2 h3
    have q1 := X.heapSize
    have q2 := X.used
    simp only [hF, hU, List.length_cons, State.stackLimits_setFrames, State.stackBytes_setFrames, hl9, hb9]
    refine ⟨⟨⟨⟨by omega, by omega, by omega, by omega, by omega, h6⟩, ?_⟩, ?_⟩, X.book⟩
    · show T.heap.size + R'.cells ≤ e.platform.maxCells
      omega
    · show T.slotsUsed + R'.slots ≤ e.platform.maxSlots
      omega
  · rw [State.stackLimits_setFrames]; rfl
  · rw [State.stackBytes_setFrames]; rfl
  · refine ⟨?_, Nat.le_refl _, Nat.le_refl _, ?_, ?_, fun a c9 h9 => ⟨c9, h9, rfl, rfl, fun _ _ => rfl⟩⟩
    · obtain ⟨t, ht, -⟩ := State.frames_cons hr
      show T.setVm s.vm = { ((T.setVm s.vm).setFrames (.invoking m args :: below)).setFrames (T.setVm s.vm).frames with heap := T.heap, slotsUsed := T.slotsUsed }
      rw [State.setFrames_setFrames, State.setFrames_self ht]
      rfl
    · show T.slotsUsed = T.slotsUsed + ((T.heap.toList.drop T.heap.size).map (·.slots.size)).sum
      rw [List.drop_eq_nil_of_le (Nat.le_of_eq Array.length_toList)]
      rfl
    · show ((T.heap.toList.drop T.heap.size).map (·.slots.size)).sum ≤ 0
      rw [List.drop_eq_nil_of_le (Nat.le_of_eq Array.length_toList)]
      exact Nat.le_refl _
/-- 'throw new E()': new; dup; invokespecial; athrow -/
theorem vx_throw0 {cc : ByteArray} {pc : Nat} (hexec : p.tables.exec = Jvm.exec) (hb : c.code = cc) (hl : l.stackTraces = false) {own cls : String} {names : List String} {ik ic mc ms : Nat} {A : Nat → Prop}
    (hown : s.vm.findClass own = some m.cls) (hcls : fit cls = true) (hnames : ∀ n ∈ names, fit n = true)
    (hk : (Cond.classLink own ik cls).before args s = true) (hini : (Cond.initialized cls).before args s = true) (hat : ∀ w ∈ vx_at0 own ic cls names, w.before args s = true)
    (hgood : ∀ w ∈ Cond.classLink own ik cls :: Cond.initialized cls :: vx_at0 own ic cls names, vx_ot w = true)
    (hU : vx_Zq tN "UNASSIGNED_STACK" steD A s s.heap) (hN : vx_Zq tN "SUPPRESSED_SENTINEL" listD A s s.heap) (hS : va_S A s.heap H locs) (hsize : ls.size = c.maxLocals)
    (d0 : decode cc pc = .ok (.new ik, 3)) (d3 : decode cc (pc + 3) = .ok (.dup, 1)) (d4 : decode cc (pc + 4) = .ok (.invokespecial ic, 3)) (d7 : decode cc (pc + 7) = .ok (.athrow, 1))
    (hout : ∀ x ∈ c.exceptionTable.toList, covers x (pc + 7) = false)
    (hRframes : names.length + 3 < R.frames) (hRlocals : (rest.map fun v => v.category).sum + (13 * (names.length + 1) + 42) ≤ R.locals) (hRcells : cells + 1 ≤ R.cells) (hRslots : slots + 6 ≤ R.slots) (hlocks : meth.locks = false)
    (hx : ∀ t : State, s.vm.Alike t.vm → H.size ≤ t.heap.size → (∀ q : Nat, q < H.size → t.heap[q]? = H[q]?) → XC cls s t)
    (hf : ∀ z ∈ locs, free z.base) (hc : cells + 1 ≤ mc) (hs : slots + 6 ≤ ms) :
    W p l e R s m args below meth c H locs cells slots (vx_MQ below Qc XC args s mc ms free) (F0 m pc ls rest) := by
  intro T hT X
  have htr : e.platform.stackTraces = false := (show e.platform.stackTraces = l.stackTraces by rw [X.admits.platform]).trans hl
  have Y := vx_rebase X (R' := { frames := R.frames, locals := R.locals, cells := 1, slots := 6 }) (Nat.le_refl _) (Nat.le_refl _) hRcells hRslots
  obtain ⟨s', hA⟩ : ∃ z, z = (T.setVm s.vm).setFrames (.invoking m args :: below) := ⟨_, rfl⟩
  rw [← hA] at Y
  have hvm : s'.vm = s.vm := by rw [hA]; rfl
  have hhp : s'.heap = H := by rw [hA]; exact hT
  have hW0 : s.WarmedH s'.vm := by rw [hvm]; exact State.WarmedH.refl s
  have hat' : ∀ w ∈ vx_at0 own ic cls names, w.before args s' = true := fun w hw => vx_ot_at hW0 hvm.symm (hgood w (List.mem_cons_of_mem _ (List.mem_cons_of_mem _ hw))) (hat w hw)
  have hk' : (Cond.classLink own ik cls).before args s' = true := vx_ot_at hW0 hvm.symm (hgood _ List.mem_cons_self) hk
  have hini' : (Cond.initialized cls).before args s' = true := vx_ot_at hW0 hvm.symm (hgood _ (List.mem_cons_of_mem _ List.mem_cons_self)) hini
  have hU' : vx_Zq tN "UNASSIGNED_STACK" steD A s' s'.heap := by rw [hhp]; exact vx_Zq.moved hW0.alike (hU.kept hS.2.1)
  have hN' : vx_Zq tN "SUPPRESSED_SENTINEL" listD A s' s'.heap := by rw [hhp]; exact vx_Zq.moved hW0.alike (hN.kept hS.2.1)
  have h : ∀ w ∈ ownAtoms0 own ic cls names, w.before args s' = true := vx_own hat' (vx_isRefq hU'.1) (vx_isRefq hN'.1) hU'.2.word hN'.2.word
  have hown' : s'.vm.findClass own = some m.cls := by rw [hvm]; exact hown
  have hins : (Cond.instantiable cls 6).before args s' = true := h _ (by simp [ownAtoms0])
  obtain ⟨vm₁, cX, kX, hfX, hkX, -, -, X₁, st1⟩ := Y.newCold hexec (own := own) (C := cls) (index := ik) (n := 6) hown' hk' hins hini'
    (g := F0 m pc ls rest) rfl (by rw [hb]; exact d0) (Nat.le_refl _) (Nat.le_refl _)
  generalize hT1 : (T.setVm vm₁).pushCell { cls := cX, slots := kX.instanceTypes.map defaultValue, vm := .none } = T1 at X₁ st1
  have hcat : (Value.ref T.heap.size).category = 1 := rfl
  have hcellA : T1.heap[T.heap.size]? = some (freshCell cX kX) := by rw [← hT1]; exact State.heap_pushCell_size _ _
  have d3' : decode c.code (pc + 3) = .ok (.dup, 1) := by rw [hb]; exact d3
  obtain ⟨U, hsteps, hrun, hend, hW, hsame, ce, hce, hO⟩ := X₁.ctorThrow0 hexec htr (own := own) (cls := cls) (names := names) (ic := ic) hown' hcls hnames h (fun x hx => nomatch hx) hfX hkX hcellA (by rw [hhp, hT]; exact Nat.le_refl _)
    (g := { method := m, pc := pc + 4, locals := ls, stack := .ref T.heap.size :: .ref T.heap.size :: rest, locked := none }) rfl hsize rfl rfl (rest := rest) rfl
    (by rw [hb]; exact d4) (by rw [hb]; exact d7) hout hRframes (by simp only [List.map_cons, List.sum_cons, hcat]; omega) hlocks
  obtain ⟨f1, f2⟩ := vx_frame hsame
  rw [hhp] at f1 f2
  have hWs : s.WarmedH U.vm := State.WarmedH.trans hW0 hW
  have hcl : s.vm.findClass cls = some ce.cls := by
    have h9 := hO.cls
    rw [hvm] at h9
    exact h9
  have hall : s.sameButNew ({ U with vm := s.vm } : State) locs mc ms := by
    subst hA
    obtain ⟨e1, e2⟩ := hsame
    rw [State.setFrames_setFrames] at e1
    have h2 : (T.setVm s.vm).sameButNew ({ U with vm := s.vm } : State) [] (0 + 1) (0 + 6) := ⟨e1, e2⟩
    have h3 := X.same.trans h2
    rw [List.append_nil] at h3
    exact h3.mono hc hs
  refine ⟨U, ?_, .threw T.heap.size, hrun, hend, Or.inr ⟨T.heap.size, rfl, cls, ce, locs, hx U hWs.alike f1 (fun q hq => f2 q hq (fun z hz => nomatch hz)), hce, hO.vm, hcl, hWs, hall, hf⟩⟩
  refine st1 _ ?_
  show Steps p.tables e below (T1.setTop { method := m, pc := pc + 3, locals := ls, stack := .ref T.heap.size :: rest, locked := none }) _
  jvm_step X₁.here [X₁.here.top, hexec, d3', Value.category]
  exact hsteps
/-- 'throw new E("text")': new; dup; ldc; invokespecial; athrow -/
theorem vx_throwS {cc : ByteArray} {pc : Nat} (hexec : p.tables.exec = Jvm.exec) (hb : c.code = cc) (hl : l.stackTraces = false) {own cls text : String} {names : List String} {ik is ic mc ms sa : Nat} {A : Nat → Prop}
    (hown : s.vm.findClass own = some m.cls) (hcls : fit cls = true) (hnames : ∀ n ∈ names, fit n = true)
    (hk : (Cond.classLink own ik cls).before args s = true) (hini : (Cond.initialized cls).before args s = true) (hstr : vk_R own is text sa s) (hat : ∀ w ∈ vx_atS own ic cls names, w.before args s = true)
    (hgood : ∀ w ∈ Cond.classLink own ik cls :: Cond.initialized cls :: vx_atS own ic cls names, vx_ot w = true)
    (hU : vx_Zq tN "UNASSIGNED_STACK" steD A s s.heap) (hN : vx_Zq tN "SUPPRESSED_SENTINEL" listD A s s.heap) (hS : va_S A s.heap H locs) (hsize : ls.size = c.maxLocals)
    (d0 : decode cc pc = .ok (.new ik, 3)) (d3 : decode cc (pc + 3) = .ok (.dup, 1)) (d4 : decode cc (pc + 4) = .ok (.ldc is, 2)) (d6 : decode cc (pc + 6) = .ok (.invokespecial ic, 3)) (d9 : decode cc (pc + 9) = .ok (.athrow, 1))
    (hout : ∀ x ∈ c.exceptionTable.toList, covers x (pc + 9) = false)
    (hRframes : names.length + 3 < R.frames) (hRlocals : (rest.map fun v => v.category).sum + (13 * (names.length + 1) + 43) ≤ R.locals) (hRcells : cells + 1 ≤ R.cells) (hRslots : slots + 6 ≤ R.slots) (hlocks : meth.locks = false)
    (hx : ∀ t : State, s.vm.Alike t.vm → H.size ≤ t.heap.size → (∀ q : Nat, q < H.size → t.heap[q]? = H[q]?) → XC cls s t)
    (hf : ∀ z ∈ locs, free z.base) (hc : cells + 1 ≤ mc) (hs : slots + 6 ≤ ms) :
    W p l e R s m args below meth c H locs cells slots (vx_MQ below Qc XC args s mc ms free) (F0 m pc ls rest) := by
  intro T hT X
  have htr : e.platform.stackTraces = false := (show e.platform.stackTraces = l.stackTraces by rw [X.admits.platform]).trans hl
  have Y := vx_rebase X (R' := { frames := R.frames, locals := R.locals, cells := 1, slots := 6 }) (Nat.le_refl _) (Nat.le_refl _) hRcells hRslots
  obtain ⟨s', hA⟩ : ∃ z, z = (T.setVm s.vm).setFrames (.invoking m args :: below) := ⟨_, rfl⟩
  rw [← hA] at Y
  have hvm : s'.vm = s.vm := by rw [hA]; rfl
  have hhp : s'.heap = H := by rw [hA]; exact hT
  have hW0 : s.WarmedH s'.vm := by rw [hvm]; exact State.WarmedH.refl s
  have hat' : ∀ w ∈ vx_atS own ic cls names, w.before args s' = true := fun w hw => vx_ot_at hW0 hvm.symm (hgood w (List.mem_cons_of_mem _ (List.mem_cons_of_mem _ hw))) (hat w hw)
  have hk' : (Cond.classLink own ik cls).before args s' = true := vx_ot_at hW0 hvm.symm (hgood _ List.mem_cons_self) hk
  have hini' : (Cond.initialized cls).before args s' = true := vx_ot_at hW0 hvm.symm (hgood _ (List.mem_cons_of_mem _ List.mem_cons_self)) hini
  have hU' : vx_Zq tN "UNASSIGNED_STACK" steD A s' s'.heap := by rw [hhp]; exact vx_Zq.moved hW0.alike (hU.kept hS.2.1)
  have hN' : vx_Zq tN "SUPPRESSED_SENTINEL" listD A s' s'.heap := by rw [hhp]; exact vx_Zq.moved hW0.alike (hN.kept hS.2.1)
  have h : ∀ w ∈ ownAtoms own ic cls names, w.before args s' = true := vx_own hat' (vx_isRefq hU'.1) (vx_isRefq hN'.1) hU'.2.word hN'.2.word
  have hown' : s'.vm.findClass own = some m.cls := by rw [hvm]; exact hown
  have hins : (Cond.instantiable cls 6).before args s' = true := h _ (by simp [ownAtoms])
  obtain ⟨vm₁, cX, kX, hfX, hkX, -, -, X₁, st1⟩ := Y.newCold hexec (own := own) (C := cls) (index := ik) (n := 6) hown' hk' hins hini'
    (g := F0 m pc ls rest) rfl (by rw [hb]; exact d0) (Nat.le_refl _) (Nat.le_refl _)
  generalize hT1 : (T.setVm vm₁).pushCell { cls := cX, slots := kX.instanceTypes.map defaultValue, vm := .none } = T1 at X₁ st1
  have hcat : (Value.ref T.heap.size).category = 1 := rfl
  have hcellA : T1.heap[T.heap.size]? = some (freshCell cX kX) := by rw [← hT1]; exact State.heap_pushCell_size _ _
  have d3' : decode c.code (pc + 3) = .ok (.dup, 1) := by rw [hb]; exact d3
  have d4' : decode c.code (pc + 4) = .ok (.ldc is, 2) := by rw [hb]; exact d4
  have hstr' : vk_R own is text sa s' := vk_R.warm hW0 hstr
  obtain ⟨U, hsteps, hrun, hend, hW, hsame, ce, hce, hO⟩ := X₁.ctorThrowS hexec htr (own := own) (cls := cls) (names := names) (ic := ic) hown' hcls hnames h (fun x hx => nomatch hx) hfX hkX hcellA (by rw [hhp, hT]; exact Nat.le_refl _) (msg := .ref sa) rfl
    (g := { method := m, pc := pc + 6, locals := ls, stack := .ref sa :: .ref T.heap.size :: .ref T.heap.size :: rest, locked := none }) rfl hsize rfl rfl (rest := rest) rfl
    (by rw [hb]; exact d6) (by rw [hb]; exact d9) hout hRframes (by simp only [List.map_cons, List.sum_cons, hcat]; omega) hlocks
  obtain ⟨f1, f2⟩ := vx_frame hsame
  rw [hhp] at f1 f2
  have hWs : s.WarmedH U.vm := State.WarmedH.trans hW0 hW
  have hcl : s.vm.findClass cls = some ce.cls := by
    have h9 := hO.cls
    rw [hvm] at h9
    exact h9
  have hall : s.sameButNew ({ U with vm := s.vm } : State) locs mc ms := by
    subst hA
    obtain ⟨e1, e2⟩ := hsame
    rw [State.setFrames_setFrames] at e1
    have h2 : (T.setVm s.vm).sameButNew ({ U with vm := s.vm } : State) [] (0 + 1) (0 + 6) := ⟨e1, e2⟩
    have h3 := X.same.trans h2
    rw [List.append_nil] at h3
    exact h3.mono hc hs
  refine ⟨U, ?_, .threw T.heap.size, hrun, hend, Or.inr ⟨T.heap.size, rfl, cls, ce, locs, hx U hWs.alike f1 (fun q hq => f2 q hq (fun z hz => nomatch hz)), hce, hO.vm, hcl, hWs, hall, hf⟩⟩
  refine st1 _ ?_
  show Steps p.tables e below (T1.setTop { method := m, pc := pc + 3, locals := ls, stack := .ref T.heap.size :: rest, locked := none }) _
  jvm_step X₁.here [X₁.here.top, hexec, d3', Value.category]
  exact X₁.ldcString hexec (own := own) (text := text) (index := is) (a := sa) hown' hstr'.1 hstr'.2
    (g := { method := m, pc := pc + 4, locals := ls, stack := .ref T.heap.size :: .ref T.heap.size :: rest, locked := none }) rfl d4' _ hsteps
/-- 'throw new E("text")', the text by a wide index -/
theorem vx_throwSW {cc : ByteArray} {pc : Nat} (hexec : p.tables.exec = Jvm.exec) (hb : c.code = cc) (hl : l.stackTraces = false) {own cls text : String} {names : List String} {ik is ic mc ms sa : Nat} {A : Nat → Prop}
    (hown : s.vm.findClass own = some m.cls) (hcls : fit cls = true) (hnames : ∀ n ∈ names, fit n = true)
    (hk : (Cond.classLink own ik cls).before args s = true) (hini : (Cond.initialized cls).before args s = true) (hstr : vk_R own is text sa s) (hat : ∀ w ∈ vx_atS own ic cls names, w.before args s = true)
    (hgood : ∀ w ∈ Cond.classLink own ik cls :: Cond.initialized cls :: vx_atS own ic cls names, vx_ot w = true)
    (hU : vx_Zq tN "UNASSIGNED_STACK" steD A s s.heap) (hN : vx_Zq tN "SUPPRESSED_SENTINEL" listD A s s.heap) (hS : va_S A s.heap H locs) (hsize : ls.size = c.maxLocals)
    (d0 : decode cc pc = .ok (.new ik, 3)) (d3 : decode cc (pc + 3) = .ok (.dup, 1)) (d4 : decode cc (pc + 4) = .ok (.ldc_w is, 3)) (d7 : decode cc (pc + 7) = .ok (.invokespecial ic, 3)) (d10 : decode cc (pc + 10) = .ok (.athrow, 1))
    (hout : ∀ x ∈ c.exceptionTable.toList, covers x (pc + 10) = false)
    (hRframes : names.length + 3 < R.frames) (hRlocals : (rest.map fun v => v.category).sum + (13 * (names.length + 1) + 43) ≤ R.locals) (hRcells : cells + 1 ≤ R.cells) (hRslots : slots + 6 ≤ R.slots) (hlocks : meth.locks = false)
    (hx : ∀ t : State, s.vm.Alike t.vm → H.size ≤ t.heap.size → (∀ q : Nat, q < H.size → t.heap[q]? = H[q]?) → XC cls s t)
    (hf : ∀ z ∈ locs, free z.base) (hc : cells + 1 ≤ mc) (hs : slots + 6 ≤ ms) :
    W p l e R s m args below meth c H locs cells slots (vx_MQ below Qc XC args s mc ms free) (F0 m pc ls rest) := by
  intro T hT X
  have htr : e.platform.stackTraces = false := (show e.platform.stackTraces = l.stackTraces by rw [X.admits.platform]).trans hl
  have Y := vx_rebase X (R' := { frames := R.frames, locals := R.locals, cells := 1, slots := 6 }) (Nat.le_refl _) (Nat.le_refl _) hRcells hRslots
  obtain ⟨s', hA⟩ : ∃ z, z = (T.setVm s.vm).setFrames (.invoking m args :: below) := ⟨_, rfl⟩
  rw [← hA] at Y
  have hvm : s'.vm = s.vm := by rw [hA]; rfl
  have hhp : s'.heap = H := by rw [hA]; exact hT
  have hW0 : s.WarmedH s'.vm := by rw [hvm]; exact State.WarmedH.refl s
  have hat' : ∀ w ∈ vx_atS own ic cls names, w.before args s' = true := fun w hw => vx_ot_at hW0 hvm.symm (hgood w (List.mem_cons_of_mem _ (List.mem_cons_of_mem _ hw))) (hat w hw)
  have hk' : (Cond.classLink own ik cls).before args s' = true := vx_ot_at hW0 hvm.symm (hgood _ List.mem_cons_self) hk
  have hini' : (Cond.initialized cls).before args s' = true := vx_ot_at hW0 hvm.symm (hgood _ (List.mem_cons_of_mem _ List.mem_cons_self)) hini
  have hU' : vx_Zq tN "UNASSIGNED_STACK" steD A s' s'.heap := by rw [hhp]; exact vx_Zq.moved hW0.alike (hU.kept hS.2.1)
  have hN' : vx_Zq tN "SUPPRESSED_SENTINEL" listD A s' s'.heap := by rw [hhp]; exact vx_Zq.moved hW0.alike (hN.kept hS.2.1)
  have h : ∀ w ∈ ownAtoms own ic cls names, w.before args s' = true := vx_own hat' (vx_isRefq hU'.1) (vx_isRefq hN'.1) hU'.2.word hN'.2.word
  have hown' : s'.vm.findClass own = some m.cls := by rw [hvm]; exact hown
  have hins : (Cond.instantiable cls 6).before args s' = true := h _ (by simp [ownAtoms])
  obtain ⟨vm₁, cX, kX, hfX, hkX, -, -, X₁, st1⟩ := Y.newCold hexec (own := own) (C := cls) (index := ik) (n := 6) hown' hk' hins hini'
    (g := F0 m pc ls rest) rfl (by rw [hb]; exact d0) (Nat.le_refl _) (Nat.le_refl _)
  generalize hT1 : (T.setVm vm₁).pushCell { cls := cX, slots := kX.instanceTypes.map defaultValue, vm := .none } = T1 at X₁ st1
  have hcat : (Value.ref T.heap.size).category = 1 := rfl
  have hcellA : T1.heap[T.heap.size]? = some (freshCell cX kX) := by rw [← hT1]; exact State.heap_pushCell_size _ _
  have d3' : decode c.code (pc + 3) = .ok (.dup, 1) := by rw [hb]; exact d3
  have d4' : decode c.code (pc + 4) = .ok (.ldc_w is, 3) := by rw [hb]; exact d4
  have hstr' : vk_R own is text sa s' := vk_R.warm hW0 hstr
  obtain ⟨U, hsteps, hrun, hend, hW, hsame, ce, hce, hO⟩ := X₁.ctorThrowS hexec htr (own := own) (cls := cls) (names := names) (ic := ic) hown' hcls hnames h (fun x hx => nomatch hx) hfX hkX hcellA (by rw [hhp, hT]; exact Nat.le_refl _) (msg := .ref sa) rfl
    (g := { method := m, pc := pc + 7, locals := ls, stack := .ref sa :: .ref T.heap.size :: .ref T.heap.size :: rest, locked := none }) rfl hsize rfl rfl (rest := rest) rfl
    (by rw [hb]; exact d7) (by rw [hb]; exact d10) hout hRframes (by simp only [List.map_cons, List.sum_cons, hcat]; omega) hlocks
  obtain ⟨f1, f2⟩ := vx_frame hsame
  rw [hhp] at f1 f2
  have hWs : s.WarmedH U.vm := State.WarmedH.trans hW0 hW
  have hcl : s.vm.findClass cls = some ce.cls := by
    have h9 := hO.cls
    rw [hvm] at h9
    exact h9
  have hall : s.sameButNew ({ U with vm := s.vm } : State) locs mc ms := by
    subst hA
    obtain ⟨e1, e2⟩ := hsame
    rw [State.setFrames_setFrames] at e1
    have h2 : (T.setVm s.vm).sameButNew ({ U with vm := s.vm } : State) [] (0 + 1) (0 + 6) := ⟨e1, e2⟩
    have h3 := X.same.trans h2
    rw [List.append_nil] at h3
    exact h3.mono hc hs
  refine ⟨U, ?_, .threw T.heap.size, hrun, hend, Or.inr ⟨T.heap.size, rfl, cls, ce, locs, hx U hWs.alike f1 (fun q hq => f2 q hq (fun z hz => nomatch hz)), hce, hO.vm, hcl, hWs, hall, hf⟩⟩
  refine st1 _ ?_
  show Steps p.tables e below (T1.setTop { method := m, pc := pc + 3, locals := ls, stack := .ref T.heap.size :: rest, locked := none }) _
  jvm_step X₁.here [X₁.here.top, hexec, d3', Value.category]
  exact X₁.ldcStringW hexec (own := own) (text := text) (index := is) (a := sa) hown' hstr'.1 hstr'.2
    (g := { method := m, pc := pc + 4, locals := ls, stack := .ref T.heap.size :: .ref T.heap.size :: rest, locked := none }) rfl d4' _ hsteps
end Ends
section Bodies
variable {l : Launch}
theorem vx_ofW {y : MethodName} {ws ws' : List Cond} {rm : Room} {Pc : Array Value → State → Prop} {Qc : Array Value → State → Outcome → State → Prop} {XC : String → State → State → Prop} {mc ms : Nat} {free : Addr → Prop} {cc : ByteArray} {maxL : Nat} {ret : Option FieldType}
    (hy : plainName y.cls = true) (hw : ws = Cond.code y cc maxL ret :: ws')
    (body : ∀ p e s m args below meth c s₁, BodyLoose p l y (headSpec ws rm) cc maxL ret e s m args below meth c s₁ → c.maxLocals = maxL → (∀ x ∈ c.exceptionTable.toList, False) → Pc args s →
      W p l e (headSpec ws rm).room s m args below meth c s.heap [] 0 0 (vx_MQ below Qc XC args s mc ms free) (entryFrame m args maxL)) : vx_Met l y ws rm Pc Qc XC mc ms free := by
  refine MetFree.of_bodyS (code := cc) (maxLocals := maxL) (ret := ret) hy ?_ ?_
  · intro args s m h hn
    obtain ⟨meth, c, h1, h2, h3, h4, h5, h6, -, -⟩ := Cond.code_spec hn (atoms_spec (ws := ws) h _ (by rw [hw]; exact List.mem_cons_self))
    exact ⟨meth, c, h1, h2, h3, h4, h5, h6⟩
  · intro p e s m args below meth c s₁ B hml hP _
    have hh0 : s₁.heap = s.heap := by rw [B.state]; rfl
    have ht : ∀ x ∈ c.exceptionTable.toList, False := by
      obtain ⟨meth9, c9, h1, h2, -, -, -, -, h7, -⟩ := Cond.code_spec B.named (atoms_spec (ws := ws) B.pre _ (by rw [hw]; exact List.mem_cons_self))
      cases Option.some.inj (h1.symm.trans B.method)
      cases Option.some.inj (h2.symm.trans (Stand.of_body B).code)
      intro x hx
      rw [Array.isEmpty_iff.mp h7] at hx
      cases hx
    obtain ⟨t, a1, o, b1, b2, b3⟩ := body p e s m args below meth c s₁ B hml ht hP s₁ hh0 (Stand.of_body B)
    exact ⟨t, o, a1, b1, b2, b3⟩
/-- the table of a body with handlers -/
theorem vx_table {p : Program} {x y : MethodName} {S : Spec} {cc bytes : ByteArray} {maxL maxL' : Nat} {ret ret' : Option FieldType} {e : Env} {s s₁ : State} {m : MethodId} {args : Array Value} {below : List Frame} {meth : Method} {c : Code} {hh : List (Nat × Nat × Nat × Nat)}
    (B : BodyLoose p l y S cc maxL ret e s m args below meth c s₁) (h : (Cond.codeWith y bytes maxL' ret' hh).before args s = true) : c.exceptionTable.toList = tableOf hh := by
  obtain ⟨m9, meth9, c9, hn9, h1, h2, -, -, h6, -⟩ := Cond.codeWith_spec h
  cases Option.some.inj (hn9.symm.trans B.named)
  cases Option.some.inj (h1.symm.trans B.method)
  cases Option.some.inj (h2.symm.trans (Stand.of_body B).code)
  rw [← h6, table_eq]
end Bodies
end VXA
/-! ===== END ===== -/
/-! ===== BEGIN a static call of a method with an exception table ===== -/
section VXS
variable {p : Program} {l : Launch} {e : Env} {R : Room} {s : State} {m : MethodId} {args : Array Value} {below : List Frame} {meth : Method} {c : Code} {T : State} {H : Heap} {locs : List Loc} {cells slots : Nat}
abbrev vx_CSW (R : Room) (s : State) (args : Array Value) (own : String) (index : Nat) (y : MethodName) (bytes : ByteArray) (maxL : Nat) (ret : Option FieldType) (hh : List (Nat × Nat × Nat × Nat)) (ws : List Cond) (rm : Room) (mc ms n : Nat) : Prop :=
  (rm.cells = mc ∧ rm.slots = ms ∧ rm.frames + 1 ≤ R.frames ∧ 8 + (maxL + 11) + rm.locals ≤ R.locals ∧ (∀ w ∈ ws, ∀ (a' : Array Value) (U : State), s.WarmedH U.vm → w.before a' U = true) ∧ Cond.codeWith y bytes maxL ret hh ∈ ws) ∧
  (Cond.codeWith y bytes maxL ret hh).before args s = true ∧ (Cond.initialized y.cls).before args s = true ∧ (y.cls ≠ "java/lang/invoke/MethodHandle" ∧ y.cls ≠ "java/lang/invoke/VarHandle") ∧
  (∀ sig, parseMethodDescriptor y.desc = some sig → n = sig.parameters.length) ∧ (Cond.methodLink own index y).before args s = true ∧ (Cond.static y).before args s = true
theorem vx_cwSW {own : String} {index maxL mc ms : Nat} {y : MethodName} {bytes : ByteArray} {ret : Option FieldType} {hh : List (Nat × Nat × Nat × Nat)} {Ts ws ws' : List Cond} {rm : Room} (n : Nat) (ht : ∀ w ∈ Ts, w.before args s = true) (hT : GoodIn Ts (va_wsS own index y ws)) (hw : ws = Cond.codeWith y bytes maxL ret hh :: ws') (hrc : rm.cells = mc) (hrs : rm.slots = ms)
    (hd : y.cls ≠ "java/lang/invoke/MethodHandle" ∧ y.cls ≠ "java/lang/invoke/VarHandle" ∧ (parseMethodDescriptor y.desc).map (fun d => d.parameters.length) = some n) (hR : rm.frames + 1 ≤ R.frames ∧ 8 + (maxL + 11) + rm.locals ≤ R.locals) :
    vx_CSW R s args own index y bytes maxL ret hh ws rm mc ms n := by
  have ok : ∀ w ∈ va_wsS own index y ws, w.before args s = true := fun w h => ht w (hT w h).1
  have hG : GoodIn Ts ws := fun w h => hT w (by unfold va_wsS; exact List.mem_append_right _ h)
  have hc : Cond.codeWith y bytes maxL ret hh ∈ ws := by rw [hw]; exact List.mem_cons_self
  refine ⟨⟨hrc, hrs, hR.1, hR.2, pay_in ht hG, hc⟩, ht _ (hG _ hc).1, ok _ (by simp [va_wsS]), ⟨hd.1, hd.2.1⟩, fun sig h => ?_, ok _ (by simp [va_wsS]), ok _ (by simp [va_wsS])⟩
  have h2 := hd.2.2
  rw [h] at h2
  exact (Option.some.inj h2).symm
theorem vx_callSW (X : Stand p l e R s m args below meth c T locs cells slots) (hexec : p.tables.exec = Jvm.exec) {own : String} {index : Nat} {y : MethodName} {bytes : ByteArray} {maxL : Nat} {ret : Option FieldType} {hh : List (Nat × Nat × Nat × Nat)}
    (hown : s.vm.findClass own = some m.cls) (hlink : (Cond.methodLink own index y).before args s = true) (hstat : (Cond.static y).before args s = true) (hinit : (Cond.initialized y.cls).before args s = true)
    (hcode : (Cond.codeWith y bytes maxL ret hh).before args s = true) (hy : y.cls ≠ "java/lang/invoke/MethodHandle" ∧ y.cls ≠ "java/lang/invoke/VarHandle")
    {W9 : Nat} {Pre : Pt → Array Value → Prop} {Post : Pt → Array Value → Option Value → Pt → Prop} (hK : Back l R p e below s args y 3 W9 Pre Post)
    {g : JFrame} (hg : g.method = m) (hsize : g.locals.size = c.maxLocals) {argsL rest : List Value} (hlen : ∀ sig, parseMethodDescriptor y.desc = some sig → argsL.length = sig.parameters.length)
    (hstack : g.stack = argsL.reverse ++ rest) (hW : 2 * g.monitorRoom + (rest.map fun v => v.category).sum ≤ W9) (hdg : decode c.code g.pc = .ok (.invokestatic index, 3))
    (hpre : ∀ vm₁, s.WarmedH vm₁ → Pre ⟨T.setVm vm₁, locs, cells, slots⟩ argsL.toArray) :
    ∃ (v : Option Value) (vm₁ : Vm) (B : Pt), s.WarmedH vm₁ ∧ Stand p l e R s m args below meth c B.U B.locs B.cells B.slots ∧ Post ⟨T.setVm vm₁, locs, cells, slots⟩ argsL.toArray v B ∧
      ∀ target, Steps p.tables e below (B.U.setTop { g with pc := g.pc + 3, stack := v.toList ++ rest }) target → Steps p.tables e below (T.setTop g) target := by
  obtain ⟨mk, methM, cM, hnamed, hmethM, -, -, -, -, -, -, hsigM⟩ := Cond.codeWith_spec hcode
  have hstatic : methM.isStatic = true := Cond.static_spec hnamed hmethM hstat
  obtain ⟨kP, hkP, -⟩ := className_of_methodNamed hnamed
  have hinitP : kP.init = .initialized := Cond.initialized_spec (findClass_of_methodNamed hnamed) hkP hinit
  obtain ⟨vm₁, X₁, hstep₁⟩ := X.invokestatic hexec hown hlink hnamed hmethM hstatic hkP hinitP hy (g := g) hg (argsL := argsL) (rest := rest) (hlen _ hsigM) hstack hdg
  obtain ⟨v, B, X', hpost, hsteps⟩ := hK m meth c ⟨T.setVm vm₁, locs, cells, slots⟩ { g with stack := rest } (.invokestatic index) mk argsL.toArray X₁ hg hsize hdg hW (X₁.named hnamed) (hpre vm₁ X₁.warmed)
  exact ⟨v, vm₁, B, X₁.warmed, X', hpost, fun target h => hstep₁ _ fun acts => by rw [doInvoke_state]; exact hsteps.trans h⟩
theorem vx_runSW {y : MethodName} {bytes cc : ByteArray} {maxL nL mc ms n index : Nat} {ret : Option FieldType} {hh : List (Nat × Nat × Nat × Nat)} {ws : List Cond} {rm : Room} {Pc : Array Value → State → Prop} {Qc : Array Value → State → Outcome → State → Prop} {free : Addr → Prop} {Ts : List Cond} {own : String} {As rest : List Value} {g : JFrame}
    (S : CallFix p m c cc nL s args Ts own) (hM : Met l y ws rm Pc Qc mc ms free) (cw : vx_CSW R s args own index y bytes maxL ret hh ws rm mc ms n) (hp : PreS s H Pc As)
    (hg : g.method = m) (hn : As.length = n) (hsize : g.locals.size = nL) (hstack : g.stack = As.reverse ++ rest) (hW : 2 * g.monitorRoom + (rest.map fun v => v.category).sum ≤ 8) (hdg : decode cc g.pc = .ok (.invokestatic index, 3)) (hf : cells + mc ≤ R.cells ∧ slots + ms ≤ R.slots) :
    va_Run p l e R s m args below meth c H locs cells slots mc ms g rest (Qc As.toArray) (free) := by
  obtain ⟨⟨hrc, hrs, hfr, hlo, hws, hcw⟩, hcode, hini, hy, hlen, hl, hstt⟩ := cw
  have hK : Back l R p e below s args y 3 8 (PreOf R mc ms Pc) (PostOf Qc mc ms free) := va_backW (hh := hh) (bytes := bytes) (maxL := maxL) (ret := ret) hM hp.1 hrc hrs hfr hlo hws hcw (fun a' U hW => word_at hW (Or.inl (by first | rfl | simp [Cond.onTables, Cond.keeps, Cond.steady])) hini)
  obtain ⟨hx, hb, hml, ho, -⟩ := S
  intro T hT X
  obtain ⟨v, vm₁, ⟨U', l2, c2, s2⟩, hW₁, X', ⟨g', mk, t, L, e1, e2, hq, h1, hL, h2, h3⟩, st⟩ := vx_callSW X hx (hh := hh) (bytes := bytes) (maxL := maxL) (ret := ret) ho hl hstt hini hcode hy hK hg (hsize.trans hml.symm) (argsL := As) (rest := rest) (fun sig h => hn.trans (hlen sig h)) hstack hW (by rw [hb]; exact hdg)
    (fun vm₁ hW₁ => ⟨hf.1, hf.2, hp.2 (T.setVm vm₁) hT hW₁⟩)
  dsimp only [Pt.U, Pt.locs, Pt.cells, Pt.slots] at X' e1 e2 h1 h2 h3 st
  subst h1; subst h2; subst h3
  exact ⟨v, (T.setVm vm₁).calling g' mk As.toArray, t, U', L, hT, X', hL, e1, e2, hq, st⟩
/-- not caught here, past rows that name other classes: it goes on to the caller -/
theorem vx_outP {p : Program} {l : Launch} {e : Env} {R : Room} {s : State} {m : MethodId} {args : Array Value} {below : List Frame} {meth : Method} {c : Code} {H : Heap} {locs : List Loc} {cells slots : Nat} {free : Addr → Prop} {ls : Array Slot} {rest : List Value} {Qc : Array Value → State → Outcome → State → Prop} {XC : String → State → State → Prop}
    {pc : Nat} {own E : String} {ce : Cell} {q : Addr} {mc ms : Nat} (hown : s.vm.findClass own = some m.cls) (hlocks : meth.locks = false)
    (hpass : ∀ z ∈ c.exceptionTable.toList, covers z pc = false ∨ (z.catchType ≠ 0 ∧ ∃ nm : String, (Cond.classLink own z.catchType nm).before args s = true ∧ va_Nc E nm s)) (hcell : H[q]? = some ce) (hv : ce.vm = .none) (hcl : s.vm.findClass E = some ce.cls)
    (hx : ∀ t : State, t.heap = H → s.vm.Alike t.vm → XC E s t) (hf : ∀ z ∈ locs, free z.base) (hc : cells ≤ mc) (hs : slots ≤ ms) :
    vx_W p l e R s m args below meth c H locs cells slots (vx_MQ below Qc XC args s mc ms free) (F0 m pc ls rest) q := by
  intro T hT X
  have hpl : e.platform.magicAccessors = ({} : Platform).magicAccessors := by rw [X.admits.platform]
  obtain ⟨vm', hW', X', st⟩ := X.outThrough hlocks q (g := F0 m pc ls rest) rfl rfl rfl (cell := ce) (by rw [hT]; exact hcell) (by rw [hv]; rfl)
    (by obtain ⟨k9, h9, -⟩ := Vm.findClass_spec hcl; exact ⟨k9, h9⟩) (fun z hz => by
      rcases hpass z hz with h | ⟨hz0, nm, hl1, hn1⟩
      · exact Or.inl h
      · obtain ⟨c6, hc6, hcl6⟩ := Cond.classLink_spec hown hl1 e.platform hpl
        obtain ⟨a8, b8, h1, h2, h3⟩ := hn1
        cases Option.some.inj (h1.symm.trans hcl)
        cases Option.some.inj (h2.symm.trans hc6)
        exact Or.inr ⟨hz0, _, hcl6, h3⟩)
  obtain ⟨g₀, hfr⟩ := X'.frames_eq
  have hcell9 : ((T.setVm vm').setFrames (.throwing q :: below)).heap[q]? = some ce := by
    show T.heap[q]? = some ce
    rw [hT]; exact hcell
  have hend : Ended ((T.setVm vm').setFrames (.throwing q :: below)) below (.threw q) := State.frames_setFrames _ (State.cur_lt_of_frames hfr)
  refine ⟨(T.setVm vm').setFrames (.throwing q :: below), ?_, .threw q, X'.here.running, hend, Or.inr ⟨q, rfl, E, ce, locs, hx _ hT (X'.ends _).1.alike, hcell9, hv, hcl, (X'.ends _).1, (X'.ends _).2.mono hc hs, hf⟩⟩
  rw [X.pushThrowing_eq]
  exact st
/-- a thing of a world lies in the heap -/
theorem vx_lt {D : va_G} {cl : List vw_C} {ws : va_W} {H1 : Heap} (h : va_P D cl ws H1) {k : Nat} {q : Nat × va_E} (hk : ws[k]? = some q) : q.1 < H1.size := (h k q hk).lt
end VXS
/-! ===== END ===== -/
/-! ===== BEGIN methods with a table of their own: called by a name, returning or throwing ===== -/
section VXH
/-! vx_backW, vx_callVX, vx_callSX, vx_callVW, vx_runVW, vx_runVX, vx_runSX, vx_ofWH follow the same proofs as their sisters above (Free/Laws.lean, Shelf42/LK1.lean); vx_outP calls Shelf42/NT130.lean (outThrough). -/
section
variable {l : Launch} {R : Room} {p : Program} {e : Env} {below : List Frame} {s : State} {sargs : Array Value} {y : MethodName} {len W9 : Nat}
theorem vx_backW {ws : List Cond} {rm : Room} {Pc : Array Value → State → Prop} {Qc : Array Value → State → Outcome → State → Prop} {XC : String → State → State → Prop} {mc ms : Nat} {free : Addr → Prop} {bytes : ByteArray} {maxL : Nat} {ret : Option FieldType} {hh : List (Nat × Nat × Nat × Nat)}
    (hM : vx_Met l y ws rm Pc Qc XC mc ms free) (hblind : FrameBlind Pc) (hrc : rm.cells = mc) (hrs : rm.slots = ms)
    (hframes : rm.frames + 1 ≤ R.frames) (hlocals : W9 + (maxL + 11) + rm.locals ≤ R.locals)
    (hws : ∀ w ∈ ws, ∀ a' U, s.WarmedH U.vm → w.before a' U = true) (hcode : Cond.codeWith y bytes maxL ret hh ∈ ws) (hinit : ∀ a' U, s.WarmedH U.vm → (Cond.initialized y.cls).before a' U = true) :
    vx_Back l R p e below s sargs y len W9 (PreOf R mc ms Pc) (PostOf Qc mc ms free) (vx_Post XC mc ms free) := by
  intro m meth c A g ig mk a X hg hsize hdg hW hn hp
  have h1 : (headSpec ws rm).pre.before a A.U = true := atoms_intro fun w hw => hws w hw _ _ X.warmed
  have h2 : (Cond.codeWith y bytes maxL ret hh).before a A.U = true := hws _ hcode _ _ X.warmed
  have h3 : (Cond.initialized y.cls).before a A.U = true := hinit _ _ X.warmed
  have h4 : A.cells + (headSpec ws rm).room.cells ≤ R.cells := by rw [show (headSpec ws rm).room.cells = mc from hrc]; exact hp.1
  have h5 : A.slots + (headSpec ws rm).room.slots ≤ R.slots := by rw [show (headSpec ws rm).room.slots = ms from hrs]; exact hp.2.1
  have hPc : Pc a (A.U.calling g mk a) := hblind _ _ _ _ hp.2.2
  obtain ⟨U, Ls, c0, s0⟩ := A
  dsimp only [Pt.U, Pt.locs, Pt.cells, Pt.slots] at h1 h2 h3 h4 h5 X hn hPc ⊢
  obtain ⟨m9, methY, cY, hn9, hmY, hcY, -, hlY, -⟩ := Cond.codeWith_spec h2
  cases Option.some.inj (hn9.symm.trans hn)
  obtain ⟨kY, hkY, -⟩ := className_of_methodNamed hn
  have hinitY : kY.init = .initialized := Cond.initialized_spec (findClass_of_methodNamed hn) hkY h3
  have h : At U g.method c below := by rw [hg]; exact X.here
  have hlocals9 : W9 + (maxL + 11) + (headSpec ws rm).room.locals ≤ R.locals := hlocals
  have happ : (headSpec ws rm).appliesLoose y e.platform (U.calling g mk a) = true :=
    Spec.appliesLoose_calling (g := g) h hdg hn hkY hinitY
      (X.room_calling (g := g) (R' := (headSpec ws rm).room) hsize hmY hcY hframes (by rw [hlY]; omega) h4 h5) h1
  obtain ⟨mid, hmid⟩ := h.above
  have hfr : (U.setTop g).frames = (.java g :: mid) ++ below := by rw [State.frames_setTop' g h.top, hmid]; rfl
  obtain ⟨o, s₂, hsteps, -, hend, hq⟩ := Steps.callFree hM p X.admits X.cas X.clock (acts := []) hfr happ hPc trivial
  have hq' : vx_Q Qc XC mc ms free a (U.calling g mk a) o s₂ := hq
  rw [State.frames_setTop' g h.top] at hend
  obtain ⟨g₀, hg0⟩ := Option.isSome_iff_exists.mp h.top
  obtain ⟨r, hr⟩ := State.topJava?_eq_some.mp hg0
  have hr' : (({ U with heap := s₂.heap, slotsUsed := s₂.slotsUsed } : State).setVm s₂.vm).frames = .java g₀ :: r := hr
  rcases hq' with ⟨hqc, L, hfe, hL⟩ | ⟨q, rfl, E, ce, L, hx, hce, hcv, hcl, hW₂, hsm, hL⟩
  · obtain ⟨⟨v, rfl⟩, hW₂, e2, q2, q3, q4, q5, q6⟩ := id hfe
    have e3 : s₂ = ({ (U.calling g mk a).setFrames s₂.frames with heap := s₂.heap, slotsUsed := s₂.slotsUsed } : State).setVm s₂.vm := by
      have : s₂ = ({ s₂ with vm := (U.calling g mk a).vm } : State).setVm s₂.vm := rfl
      rw [e2] at this
      exact this
    obtain ⟨c₂, i₂, len₂, hc₂, hd₂, hf₂⟩ := hend
    have hW' : U.WarmedH s₂.vm := hW₂
    have hcc : c₂ = c := by
      have h1 : s₂.code? g.method = U.code? g.method := by
        rw [State.code?_eq, State.code?_eq, hW'.alike.method?]
      exact Option.some.inj (hc₂.symm.trans (h1.trans h.code))
    subst hcc
    have hlen : len₂ = len := by rw [hdg] at hd₂; cases hd₂; rfl
    subst hlen
    have hs₂ : s₂ = (({ U with heap := s₂.heap, slotsUsed := s₂.slotsUsed } : State).setVm s₂.vm).setTop { g with pc := g.pc + len₂, stack := v.toList ++ g.stack } := by
      refine e3.trans ?_
      rw [hf₂, State.calling_eq h.top, State.setFrames_setFrames, State.setTop_of_frames _ hr', hr]
      rfl
    have hsame : U.sameButNew ({ U with heap := s₂.heap, slotsUsed := s₂.slotsUsed } : State) L mc ms := by
      refine ⟨?_, q2, q3, q4, q5, q6⟩
      obtain ⟨t, ht, -⟩ := State.frames_cons hr
      show ({ U with heap := s₂.heap, slotsUsed := s₂.slotsUsed } : State) = { U.setFrames U.frames with heap := s₂.heap, slotsUsed := s₂.slotsUsed }
      rw [State.setFrames_self ht]
    subst hg
    refine Or.inl ⟨v, ⟨(({ U with heap := s₂.heap, slotsUsed := s₂.slotsUsed } : State).setVm s₂.vm), Ls ++ L, c0 + mc, s0 + ms⟩,
      ⟨X.admits, X.cas, X.clock, X.frames, X.room, X.hears, X.method, X.code, (X.here.setHeapUsed s₂.heap s₂.slotsUsed).setVm hW'.alike, X.tail, State.WarmedH.trans X.warmed hW', X.limits, X.bytes, X.same.trans (hsame.setVm s.vm)⟩,
      ⟨g, mk, s₂, L, rfl, rfl, hqc, rfl, hL, rfl, rfl⟩, ?_⟩
    show Steps p.tables e below _ ((({ U with heap := s₂.heap, slotsUsed := s₂.slotsUsed } : State).setVm s₂.vm).setTop { g with pc := g.pc + len₂, stack := v.toList ++ g.stack })
    rw [← hs₂]
    exact hsteps
  · obtain ⟨e2, q2, q3, q4, q5, q6⟩ := id hsm
    have e3 : s₂ = ({ (U.calling g mk a).setFrames s₂.frames with heap := s₂.heap, slotsUsed := s₂.slotsUsed } : State).setVm s₂.vm := by
      have : s₂ = ({ s₂ with vm := (U.calling g mk a).vm } : State).setVm s₂.vm := rfl
      rw [e2] at this
      exact this
    have hf₂ : s₂.frames = .throwing q :: .java g :: U.frames.tail := hend
    have hW' : U.WarmedH s₂.vm := hW₂
    have hs₂ : s₂ = ((({ U with heap := s₂.heap, slotsUsed := s₂.slotsUsed } : State).setVm s₂.vm).setTop g).pushFrame (.throwing q) := by
      refine e3.trans ?_
      rw [hf₂, State.calling_eq h.top, State.setFrames_setFrames, State.pushFrame, State.frames_setTop _ hr', State.setTop_of_frames _ hr', State.setFrames_setFrames, hr]
      rfl
    have hsame : U.sameButNew ({ U with heap := s₂.heap, slotsUsed := s₂.slotsUsed } : State) L mc ms := by
      refine ⟨?_, q2, q3, q4, q5, q6⟩
      obtain ⟨t, ht, -⟩ := State.frames_cons hr
      show ({ U with heap := s₂.heap, slotsUsed := s₂.slotsUsed } : State) = { U.setFrames U.frames with heap := s₂.heap, slotsUsed := s₂.slotsUsed }
      rw [State.setFrames_self ht]
    subst hg
    refine Or.inr ⟨q, ⟨(({ U with heap := s₂.heap, slotsUsed := s₂.slotsUsed } : State).setVm s₂.vm), Ls ++ L, c0 + mc, s0 + ms⟩,
      ⟨X.admits, X.cas, X.clock, X.frames, X.room, X.hears, X.method, X.code, (X.here.setHeapUsed s₂.heap s₂.slotsUsed).setVm hW'.alike, X.tail, State.WarmedH.trans X.warmed hW', X.limits, X.bytes, X.same.trans (hsame.setVm s.vm)⟩,
      ⟨g, mk, s₂, L, E, ce, rfl, rfl, hx, hce, hcv, hcl, rfl, hL, rfl, rfl⟩, ?_⟩
    show Steps p.tables e below _ (((({ U with heap := s₂.heap, slotsUsed := s₂.slotsUsed } : State).setVm s₂.vm).setTop g).pushFrame (.throwing q))
    rw [← hs₂]
    exact hsteps
end
variable {p : Program} {l : Launch} {e : Env} {R : Room} {s : State} {m : MethodId} {args : Array Value} {below : List Frame} {meth : Method} {c : Code} {T : State} {H : Heap} {locs : List Loc} {cells slots : Nat}
theorem vx_callVX (X : Stand p l e R s m args below meth c T locs cells slots) (hexec : p.tables.exec = Jvm.exec) {own C : String} {index : Nat} {y : MethodName} {bytes : ByteArray} {maxL : Nat} {ret : Option FieldType} {hh : List (Nat × Nat × Nat × Nat)}
    (hown : s.vm.findClass own = some m.cls) (hlink : (Cond.methodLink own index y).before args s = true) (hinst : (Cond.instanceMethod y).before args s = true) (hsel : (Cond.selects C y y).before args s = true)
    (hcode : (Cond.codeWith y bytes maxL ret hh).before args s = true) (hy : y.cls ≠ "java/lang/invoke/MethodHandle" ∧ y.cls ≠ "java/lang/invoke/VarHandle")
    {W9 : Nat} {Pre : Pt → Array Value → Prop} {Post : Pt → Array Value → Option Value → Pt → Prop} {PostX : Pt → Array Value → Addr → Pt → Prop} (hK : vx_Back l R p e below s args y 3 W9 Pre Post PostX)
    {b : Addr} {cellB : Cell} (hcell : T.heap[b]? = some cellB) (hobj : cellB.vm.isStatics = false) (hcls : s.vm.findClass C = some cellB.cls)
    {g : JFrame} (hg : g.method = m) (hsize : g.locals.size = c.maxLocals) {argsL rest : List Value} (hlen : ∀ sig, parseMethodDescriptor y.desc = some sig → argsL.length = sig.parameters.length)
    (hstack : g.stack = argsL.reverse ++ .ref b :: rest) (hW : 2 * g.monitorRoom + (rest.map fun v => v.category).sum ≤ W9) (hdg : decode c.code g.pc = .ok (.invokevirtual index, 3))
    (hpre : ∀ vm₁, s.WarmedH vm₁ → Pre ⟨T.setVm vm₁, locs, cells, slots⟩ (Value.ref b :: argsL).toArray) :
    (∃ (v : Option Value) (vm₁ : Vm) (B : Pt), s.WarmedH vm₁ ∧ Stand p l e R s m args below meth c B.U B.locs B.cells B.slots ∧ Post ⟨T.setVm vm₁, locs, cells, slots⟩ (Value.ref b :: argsL).toArray v B ∧
      ∀ target, Steps p.tables e below (B.U.setTop { g with pc := g.pc + 3, stack := v.toList ++ rest }) target → Steps p.tables e below (T.setTop g) target) ∨
    (∃ (q : Addr) (vm₁ : Vm) (B : Pt), s.WarmedH vm₁ ∧ Stand p l e R s m args below meth c B.U B.locs B.cells B.slots ∧ PostX ⟨T.setVm vm₁, locs, cells, slots⟩ (Value.ref b :: argsL).toArray q B ∧
      Steps p.tables e below (T.setTop g) ((B.U.setTop { g with stack := rest }).pushFrame (.throwing q))) := by
  obtain ⟨mk, methM, hnamed, hmethM, hstM, habM⟩ := Cond.instanceMethod_spec hinst
  obtain ⟨m8, methM', cM, hn8, hmethM', -, -, -, -, -, -, hsigM⟩ := Cond.codeWith_spec hcode
  cases Option.some.inj (hn8.symm.trans hnamed)
  cases hmethM.symm.trans hmethM'
  obtain ⟨c2, r2, m2, q1, q2, q3, q4, kP, hkP, hkPi⟩ := Cond.selects_spec hsel
  cases hcls.symm.trans q1
  cases (State.methodFound?_of_named hnamed hy).symm.trans q2
  cases hnamed.symm.trans q3
  have hselP : selectMethod e.platform s.vm cellB.cls mk = .method mk := by rw [Launch.admits_selectMethod X.admits]; exact q4
  obtain ⟨vm₁, X₁, hstep₁⟩ := X.invokevirtual hexec hown hlink hnamed hmethM hstM hkP hkPi hy (a := b) (cell := cellB) hcell
    (fun z h => by rw [h] at hobj; cases hobj) hselP hmethM habM hkP hkPi (g := g) hg (argsL := argsL) (rest := rest) (hlen _ hsigM) hstack hdg
  rcases hK m meth c ⟨T.setVm vm₁, locs, cells, slots⟩ { g with stack := rest } (.invokevirtual index) mk (Value.ref b :: argsL).toArray X₁ hg hsize hdg hW (X₁.named hnamed) (hpre vm₁ X₁.warmed) with ⟨v, B, X', hpost, hsteps⟩ | ⟨q, B, X', hpost, hsteps⟩
  · exact Or.inl ⟨v, vm₁, B, X₁.warmed, X', hpost, fun target h => hstep₁ _ fun acts => by rw [doInvoke_state]; exact hsteps.trans h⟩
  · exact Or.inr ⟨q, vm₁, B, X₁.warmed, X', hpost, hstep₁ _ fun acts => by rw [doInvoke_state]; exact hsteps⟩
theorem vx_callSX (X : Stand p l e R s m args below meth c T locs cells slots) (hexec : p.tables.exec = Jvm.exec) {own : String} {index : Nat} {y : MethodName} {bytes : ByteArray} {maxL : Nat} {ret : Option FieldType} {hh : List (Nat × Nat × Nat × Nat)}
    (hown : s.vm.findClass own = some m.cls) (hlink : (Cond.methodLink own index y).before args s = true) (hstat : (Cond.static y).before args s = true) (hinit : (Cond.initialized y.cls).before args s = true)
    (hcode : (Cond.codeWith y bytes maxL ret hh).before args s = true) (hy : y.cls ≠ "java/lang/invoke/MethodHandle" ∧ y.cls ≠ "java/lang/invoke/VarHandle")
    {W9 : Nat} {Pre : Pt → Array Value → Prop} {Post : Pt → Array Value → Option Value → Pt → Prop} {PostX : Pt → Array Value → Addr → Pt → Prop} (hK : vx_Back l R p e below s args y 3 W9 Pre Post PostX)
    {g : JFrame} (hg : g.method = m) (hsize : g.locals.size = c.maxLocals) {argsL rest : List Value} (hlen : ∀ sig, parseMethodDescriptor y.desc = some sig → argsL.length = sig.parameters.length)
    (hstack : g.stack = argsL.reverse ++ rest) (hW : 2 * g.monitorRoom + (rest.map fun v => v.category).sum ≤ W9) (hdg : decode c.code g.pc = .ok (.invokestatic index, 3))
    (hpre : ∀ vm₁, s.WarmedH vm₁ → Pre ⟨T.setVm vm₁, locs, cells, slots⟩ argsL.toArray) :
    (∃ (v : Option Value) (vm₁ : Vm) (B : Pt), s.WarmedH vm₁ ∧ Stand p l e R s m args below meth c B.U B.locs B.cells B.slots ∧ Post ⟨T.setVm vm₁, locs, cells, slots⟩ argsL.toArray v B ∧
      ∀ target, Steps p.tables e below (B.U.setTop { g with pc := g.pc + 3, stack := v.toList ++ rest }) target → Steps p.tables e below (T.setTop g) target) ∨
    (∃ (q : Addr) (vm₁ : Vm) (B : Pt), s.WarmedH vm₁ ∧ Stand p l e R s m args below meth c B.U B.locs B.cells B.slots ∧ PostX ⟨T.setVm vm₁, locs, cells, slots⟩ argsL.toArray q B ∧
      Steps p.tables e below (T.setTop g) ((B.U.setTop { g with stack := rest }).pushFrame (.throwing q))) := by
  obtain ⟨mk, methM, cM, hnamed, hmethM, -, -, -, -, -, -, hsigM⟩ := Cond.codeWith_spec hcode
  have hstatic : methM.isStatic = true := Cond.static_spec hnamed hmethM hstat
  obtain ⟨kP, hkP, -⟩ := className_of_methodNamed hnamed
  have hinitP : kP.init = .initialized := Cond.initialized_spec (findClass_of_methodNamed hnamed) hkP hinit
  obtain ⟨vm₁, X₁, hstep₁⟩ := X.invokestatic hexec hown hlink hnamed hmethM hstatic hkP hinitP hy (g := g) hg (argsL := argsL) (rest := rest) (hlen _ hsigM) hstack hdg
  rcases hK m meth c ⟨T.setVm vm₁, locs, cells, slots⟩ { g with stack := rest } (.invokestatic index) mk argsL.toArray X₁ hg hsize hdg hW (X₁.named hnamed) (hpre vm₁ X₁.warmed) with ⟨v, B, X', hpost, hsteps⟩ | ⟨q, B, X', hpost, hsteps⟩
  · exact Or.inl ⟨v, vm₁, B, X₁.warmed, X', hpost, fun target h => hstep₁ _ fun acts => by rw [doInvoke_state]; exact hsteps.trans h⟩
  · exact Or.inr ⟨q, vm₁, B, X₁.warmed, X', hpost, hstep₁ _ fun acts => by rw [doInvoke_state]; exact hsteps⟩
theorem vx_callVW (X : Stand p l e R s m args below meth c T locs cells slots) (hexec : p.tables.exec = Jvm.exec) {own C : String} {index : Nat} {y : MethodName} {bytes : ByteArray} {maxL : Nat} {ret : Option FieldType} {hh : List (Nat × Nat × Nat × Nat)}
    (hown : s.vm.findClass own = some m.cls) (hlink : (Cond.methodLink own index y).before args s = true) (hinst : (Cond.instanceMethod y).before args s = true) (hsel : (Cond.selects C y y).before args s = true)
    (hcode : (Cond.codeWith y bytes maxL ret hh).before args s = true) (hy : y.cls ≠ "java/lang/invoke/MethodHandle" ∧ y.cls ≠ "java/lang/invoke/VarHandle")
    {W9 : Nat} {Pre : Pt → Array Value → Prop} {Post : Pt → Array Value → Option Value → Pt → Prop} (hK : Back l R p e below s args y 3 W9 Pre Post)
    {b : Addr} {cellB : Cell} (hcell : T.heap[b]? = some cellB) (hobj : cellB.vm.isStatics = false) (hcls : s.vm.findClass C = some cellB.cls)
    {g : JFrame} (hg : g.method = m) (hsize : g.locals.size = c.maxLocals) {argsL rest : List Value} (hlen : ∀ sig, parseMethodDescriptor y.desc = some sig → argsL.length = sig.parameters.length)
    (hstack : g.stack = argsL.reverse ++ .ref b :: rest) (hW : 2 * g.monitorRoom + (rest.map fun v => v.category).sum ≤ W9) (hdg : decode c.code g.pc = .ok (.invokevirtual index, 3))
    (hpre : ∀ vm₁, s.WarmedH vm₁ → Pre ⟨T.setVm vm₁, locs, cells, slots⟩ (Value.ref b :: argsL).toArray) :
    ∃ (v : Option Value) (vm₁ : Vm) (B : Pt), s.WarmedH vm₁ ∧ Stand p l e R s m args below meth c B.U B.locs B.cells B.slots ∧ Post ⟨T.setVm vm₁, locs, cells, slots⟩ (Value.ref b :: argsL).toArray v B ∧
      ∀ target, Steps p.tables e below (B.U.setTop { g with pc := g.pc + 3, stack := v.toList ++ rest }) target → Steps p.tables e below (T.setTop g) target := by
  obtain ⟨mk, methM, hnamed, hmethM, hstM, habM⟩ := Cond.instanceMethod_spec hinst
  obtain ⟨m8, methM', cM, hn8, hmethM', -, -, -, -, -, -, hsigM⟩ := Cond.codeWith_spec hcode
  cases Option.some.inj (hn8.symm.trans hnamed)
  cases hmethM.symm.trans hmethM'
  obtain ⟨c2, r2, m2, q1, q2, q3, q4, kP, hkP, hkPi⟩ := Cond.selects_spec hsel
  cases hcls.symm.trans q1
  cases (State.methodFound?_of_named hnamed hy).symm.trans q2
  cases hnamed.symm.trans q3
  have hselP : selectMethod e.platform s.vm cellB.cls mk = .method mk := by rw [Launch.admits_selectMethod X.admits]; exact q4
  obtain ⟨vm₁, X₁, hstep₁⟩ := X.invokevirtual hexec hown hlink hnamed hmethM hstM hkP hkPi hy (a := b) (cell := cellB) hcell
    (fun z h => by rw [h] at hobj; cases hobj) hselP hmethM habM hkP hkPi (g := g) hg (argsL := argsL) (rest := rest) (hlen _ hsigM) hstack hdg
  obtain ⟨v, B, X', hpost, hsteps⟩ := hK m meth c ⟨T.setVm vm₁, locs, cells, slots⟩ { g with stack := rest } (.invokevirtual index) mk (Value.ref b :: argsL).toArray X₁ hg hsize hdg hW (X₁.named hnamed) (hpre vm₁ X₁.warmed)
  exact ⟨v, vm₁, B, X₁.warmed, X', hpost, fun target h => hstep₁ _ fun acts => by rw [doInvoke_state]; exact hsteps.trans h⟩
abbrev vx_CVW (R : Room) (s : State) (args : Array Value) (own C : String) (index : Nat) (y : MethodName) (bytes : ByteArray) (maxL : Nat) (ret : Option FieldType) (hh : List (Nat × Nat × Nat × Nat)) (ws : List Cond) (rm : Room) (mc ms n : Nat) : Prop :=
  (rm.cells = mc ∧ rm.slots = ms ∧ rm.frames + 1 ≤ R.frames ∧ 8 + (maxL + 11) + rm.locals ≤ R.locals ∧ (∀ w ∈ ws, ∀ (a' : Array Value) (U : State), s.WarmedH U.vm → w.before a' U = true) ∧ Cond.codeWith y bytes maxL ret hh ∈ ws) ∧
  (Cond.codeWith y bytes maxL ret hh).before args s = true ∧ (Cond.initialized y.cls).before args s = true ∧ (y.cls ≠ "java/lang/invoke/MethodHandle" ∧ y.cls ≠ "java/lang/invoke/VarHandle") ∧
  (∀ sig, parseMethodDescriptor y.desc = some sig → n = sig.parameters.length) ∧ (Cond.methodLink own index y).before args s = true ∧ (Cond.instanceMethod y).before args s = true ∧ (Cond.selects C y y).before args s = true
theorem vx_cwVW {own C : String} {index maxL mc ms : Nat} {y : MethodName} {bytes : ByteArray} {ret : Option FieldType} {hh : List (Nat × Nat × Nat × Nat)} {Ts ws ws' : List Cond} {rm : Room} (n : Nat) (ht : ∀ w ∈ Ts, w.before args s = true) (hT : GoodIn Ts (wsV own index C y ws)) (hw : ws = Cond.codeWith y bytes maxL ret hh :: ws') (hrc : rm.cells = mc) (hrs : rm.slots = ms)
    (hd : y.cls = C ∧ y.cls ≠ "java/lang/invoke/MethodHandle" ∧ y.cls ≠ "java/lang/invoke/VarHandle" ∧ (parseMethodDescriptor y.desc).map (fun d => d.parameters.length) = some n) (hR : rm.frames + 1 ≤ R.frames ∧ 8 + (maxL + 11) + rm.locals ≤ R.locals) :
    vx_CVW R s args own C index y bytes maxL ret hh ws rm mc ms n := by
  obtain ⟨hC, hd⟩ := hd
  subst hC
  have ok : ∀ w ∈ wsV own index y.cls y ws, w.before args s = true := fun w h => ht w (hT w h).1
  have hG : GoodIn Ts ws := fun w h => hT w (by unfold wsV; exact List.mem_append_right _ h)
  have hc : Cond.codeWith y bytes maxL ret hh ∈ ws := by rw [hw]; exact List.mem_cons_self
  refine ⟨⟨hrc, hrs, hR.1, hR.2, pay_in ht hG, hc⟩, ht _ (hG _ hc).1, ok _ (by simp [wsV]), ⟨hd.1, hd.2.1⟩, fun sig h => ?_, ok _ (by simp [wsV]), ok _ (by simp [wsV]), ok _ (by simp [wsV])⟩
  have h2 := hd.2.2
  rw [h] at h2
  exact (Option.some.inj h2).symm
theorem vx_runVW {y : MethodName} {bytes cc : ByteArray} {maxL nL mc ms n index : Nat} {ret : Option FieldType} {hh : List (Nat × Nat × Nat × Nat)} {ws : List Cond} {rm : Room} {Pc : Array Value → State → Prop} {Qc : Array Value → State → Outcome → State → Prop} {free : Addr → Prop} {Ts : List Cond} {own C : String} {b : Addr} {As rest : List Value} {g : JFrame}
    (S : CallFix p m c cc nL s args Ts own) (hM : Met l y ws rm Pc Qc mc ms free) (cw : vx_CVW R s args own C index y bytes maxL ret hh ws rm mc ms n) (hp : PreV s H C b Pc As)
    (hg : g.method = m) (hn : As.length = n) (hsize : g.locals.size = nL) (hstack : g.stack = As.reverse ++ .ref b :: rest) (hW : 2 * g.monitorRoom + (rest.map fun v => v.category).sum ≤ 8) (hdg : decode cc g.pc = .ok (.invokevirtual index, 3)) (hf : cells + mc ≤ R.cells ∧ slots + ms ≤ R.slots) :
    va_Run p l e R s m args below meth c H locs cells slots mc ms g rest (Qc (Value.ref b :: As).toArray) free := by
  obtain ⟨⟨hrc, hrs, hfr, hlo, hws, hcw⟩, hcode, hini, hy, hlen, hl, hin, hse⟩ := cw
  have hK : Back l R p e below s args y 3 8 (PreOf R mc ms Pc) (PostOf Qc mc ms free) := va_backW (hh := hh) (bytes := bytes) (maxL := maxL) (ret := ret) hM hp.1 hrc hrs hfr hlo hws hcw (fun a' U hW => word_at hW (Or.inl (by first | rfl | simp [Cond.onTables, Cond.keeps, Cond.steady])) hini)
  obtain ⟨hx, hb, hml, ho, -⟩ := S
  obtain ⟨-, ⟨cellB, hcB, hoB, hclB⟩, hPc⟩ := hp
  intro T hT X
  obtain ⟨v, vm₁, ⟨U', l2, c2, s2⟩, hW₁, X', ⟨g', mk, t, L, e1, e2, hq, h1, hL, h2, h3⟩, st⟩ := vx_callVW X hx (C := C) (hh := hh) (bytes := bytes) (maxL := maxL) (ret := ret) ho hl hin hse hcode hy hK (by rw [hT]; exact hcB) hoB hclB hg (hsize.trans hml.symm) (argsL := As) (rest := rest) (fun sig h => hn.trans (hlen sig h)) hstack hW (by rw [hb]; exact hdg)
    (fun vm₁ hW₁ => ⟨hf.1, hf.2, hPc (T.setVm vm₁) hT hW₁⟩)
  dsimp only [Pt.U, Pt.locs, Pt.cells, Pt.slots] at X' e1 e2 h1 h2 h3 st
  subst h1; subst h2; subst h3
  exact ⟨v, (T.setVm vm₁).calling g' mk (Value.ref b :: As).toArray, t, U', L, hT, X', hL, e1, e2, hq, st⟩
section
variable {y : MethodName} {bytes cc : ByteArray} {maxL nL mc ms n index : Nat} {ret : Option FieldType} {ws : List Cond} {rm : Room} {Pc : Array Value → State → Prop} {Qc : Array Value → State → Outcome → State → Prop} {XC : String → State → State → Prop} {free : Addr → Prop} {Ts : List Cond} {own C : String} {b : Addr} {As rest : List Value} {g : JFrame}
theorem vx_runVX {hh : List (Nat × Nat × Nat × Nat)} (S : CallFix p m c cc nL s args Ts own) (hM : vx_Met l y ws rm Pc Qc XC mc ms free) (cw : vx_CVW R s args own C index y bytes maxL ret hh ws rm mc ms n) (hp : PreV s H C b Pc As)
    (hg : g.method = m) (hn : As.length = n) (hsize : g.locals.size = nL) (hstack : g.stack = As.reverse ++ .ref b :: rest) (hW : 2 * g.monitorRoom + (rest.map fun v => v.category).sum ≤ 8) (hdg : decode cc g.pc = .ok (.invokevirtual index, 3)) (hf : cells + mc ≤ R.cells ∧ slots + ms ≤ R.slots) :
    vx_Run p l e R s m args below meth c H locs cells slots mc ms g rest (Qc (Value.ref b :: As).toArray) XC free := by
  obtain ⟨⟨hrc, hrs, hfr, hlo, hws, hcw⟩, hcode, hini, hy, hlen, hl, hin, hse⟩ := cw
  have hK : vx_Back l R p e below s args y 3 8 (PreOf R mc ms Pc) (PostOf Qc mc ms free) (vx_Post XC mc ms free) := vx_backW (hh := hh) (bytes := bytes) (maxL := maxL) (ret := ret) hM hp.1 hrc hrs hfr hlo hws hcw (fun a' U hW => word_at hW (Or.inl (by first | rfl | simp [Cond.onTables, Cond.keeps, Cond.steady])) hini)
  obtain ⟨hx, hb, hml, ho, -⟩ := S
  obtain ⟨-, ⟨cellB, hcB, hoB, hclB⟩, hPc⟩ := hp
  intro T hT X
  rcases vx_callVX X hx (C := C) (hh := hh) (bytes := bytes) (maxL := maxL) (ret := ret) ho hl hin hse hcode hy hK (by rw [hT]; exact hcB) hoB hclB hg (hsize.trans hml.symm) (argsL := As) (rest := rest) (fun sig h => hn.trans (hlen sig h)) hstack hW (by rw [hb]; exact hdg)
    (fun vm₁ hW₁ => ⟨hf.1, hf.2, hPc (T.setVm vm₁) hT hW₁⟩) with ⟨v, vm₁, ⟨U', l2, c2, s2⟩, hW₁, X', ⟨g', mk, t, L, e1, e2, hq, h1, hL, h2, h3⟩, st⟩ | ⟨q, vm₁, ⟨U', l2, c2, s2⟩, hW₁, X', ⟨g', mk, t, L, E, ce, e1, e2, hq, hce, hcv, hcl, h1, hL, h2, h3⟩, st⟩
  · dsimp only [Pt.U, Pt.locs, Pt.cells, Pt.slots] at X' e1 e2 h1 h2 h3 st
    subst h1; subst h2; subst h3
    exact Or.inl ⟨v, (T.setVm vm₁).calling g' mk (Value.ref b :: As).toArray, t, U', L, hT, X', hL, e1, e2, hq, st⟩
  · dsimp only [Pt.U, Pt.locs, Pt.cells, Pt.slots] at X' e1 e2 h1 h2 h3 st hcl
    subst h1; subst h2; subst h3
    exact Or.inr ⟨q, (T.setVm vm₁).calling g' mk (Value.ref b :: As).toArray, t, U', L, E, ce, hT, X', hL, e1, e2, hq, hce, hcv, vx_cls hW₁ hcl, st⟩
theorem vx_runSX {hh : List (Nat × Nat × Nat × Nat)} (S : CallFix p m c cc nL s args Ts own) (hM : vx_Met l y ws rm Pc Qc XC mc ms free) (cw : vx_CSW R s args own index y bytes maxL ret hh ws rm mc ms n) (hp : PreS s H Pc As)
    (hg : g.method = m) (hn : As.length = n) (hsize : g.locals.size = nL) (hstack : g.stack = As.reverse ++ rest) (hW : 2 * g.monitorRoom + (rest.map fun v => v.category).sum ≤ 8) (hdg : decode cc g.pc = .ok (.invokestatic index, 3)) (hf : cells + mc ≤ R.cells ∧ slots + ms ≤ R.slots) :
    vx_Run p l e R s m args below meth c H locs cells slots mc ms g rest (Qc As.toArray) XC free := by
  obtain ⟨⟨hrc, hrs, hfr, hlo, hws, hcw⟩, hcode, hini, hy, hlen, hl, hstt⟩ := cw
  have hK : vx_Back l R p e below s args y 3 8 (PreOf R mc ms Pc) (PostOf Qc mc ms free) (vx_Post XC mc ms free) := vx_backW (hh := hh) (bytes := bytes) (maxL := maxL) (ret := ret) hM hp.1 hrc hrs hfr hlo hws hcw (fun a' U hW => word_at hW (Or.inl (by first | rfl | simp [Cond.onTables, Cond.keeps, Cond.steady])) hini)
  obtain ⟨hx, hb, hml, ho, -⟩ := S
  intro T hT X
  rcases vx_callSX X hx (hh := hh) (bytes := bytes) (maxL := maxL) (ret := ret) ho hl hstt hini hcode hy hK hg (hsize.trans hml.symm) (argsL := As) (rest := rest) (fun sig h => hn.trans (hlen sig h)) hstack hW (by rw [hb]; exact hdg)
    (fun vm₁ hW₁ => ⟨hf.1, hf.2, hp.2 (T.setVm vm₁) hT hW₁⟩) with ⟨v, vm₁, ⟨U', l2, c2, s2⟩, hW₁, X', ⟨g', mk, t, L, e1, e2, hq, h1, hL, h2, h3⟩, st⟩ | ⟨q, vm₁, ⟨U', l2, c2, s2⟩, hW₁, X', ⟨g', mk, t, L, E, ce, e1, e2, hq, hce, hcv, hcl, h1, hL, h2, h3⟩, st⟩
  · dsimp only [Pt.U, Pt.locs, Pt.cells, Pt.slots] at X' e1 e2 h1 h2 h3 st
    subst h1; subst h2; subst h3
    exact Or.inl ⟨v, (T.setVm vm₁).calling g' mk As.toArray, t, U', L, hT, X', hL, e1, e2, hq, st⟩
  · dsimp only [Pt.U, Pt.locs, Pt.cells, Pt.slots] at X' e1 e2 h1 h2 h3 st hcl
    subst h1; subst h2; subst h3
    exact Or.inr ⟨q, (T.setVm vm₁).calling g' mk As.toArray, t, U', L, E, ce, hT, X', hL, e1, e2, hq, hce, hcv, vx_cls hW₁ hcl, st⟩
end
end VXH
theorem vx_ofWH {l : Launch} {y : MethodName} {ws ws' : List Cond} {rm : Room} {Pc : Array Value → State → Prop} {Qc : Array Value → State → Outcome → State → Prop} {XC : String → State → State → Prop} {mc ms : Nat} {free : Addr → Prop} {cc : ByteArray} {maxL : Nat} {ret : Option FieldType} {hh : List (Nat × Nat × Nat × Nat)}
    (hy : plainName y.cls = true) (hw : ws = Cond.codeWith y cc maxL ret hh :: ws')
    (body : ∀ p e s m args below meth c s₁, BodyLoose p l y (headSpec ws rm) cc maxL ret e s m args below meth c s₁ → c.maxLocals = maxL → Pc args s →
      W p l e (headSpec ws rm).room s m args below meth c s.heap [] 0 0 (vx_MQ below Qc XC args s mc ms free) (entryFrame m args maxL)) : vx_Met l y ws rm Pc Qc XC mc ms free := by
  refine MetFree.of_bodyS (code := cc) (maxLocals := maxL) (ret := ret) hy ?_ ?_
  · intro args s m h hn
    obtain ⟨m9, meth, c, hn9, h1, h2, h3, h4, -, h5, h6, -⟩ := Cond.codeWith_spec (atoms_spec (ws := ws) h _ (by rw [hw]; exact List.mem_cons_self))
    cases hn.symm.trans hn9
    exact ⟨meth, c, h1, h2, h3, h4, h5, h6⟩
  · intro p e s m args below meth c s₁ B hml hP _
    have hh0 : s₁.heap = s.heap := by rw [B.state]; rfl
    obtain ⟨t, a1, o, b1, b2, b3⟩ := body p e s m args below meth c s₁ B hml hP s₁ hh0 (Stand.of_body B)
    exact ⟨t, o, a1, b1, b2, b3⟩
/-! ===== END ===== -/
end
section
/-! ===== BEGIN printed: names, fields, word lists, decode rows ===== -/
def RX0 : String := "StepGraph"
def TX0 : u_T := fun k => match k with
  | 0 => ("StepGraph", "firstEnds", "[I", true)
  | 1 => ("StepGraph", "secondEnds", "[I", true)
  | 2 => ("StepGraph", "weights", "[D", true)
  | 3 => ("StepGraph", "vertexCount", "I", false)
  | 4 => ("StepGraph", "edgeCount", "I", false)
  | 5 => ("StepGraph", "partCount", "I", false)
  | 6 => ("StepGraph", "values", "[D", true)
  | 7 => ("StepGraph", "sends", "[Z", true)
  | 8 => ("StepGraph", "waiting", "[[D", true)
  | 9 => ("StepGraph", "running", "Z", false)
  | 10 => ("StepGraph", "runProgram", "I", false)
  | 11 => ("StepGraph", "waitingCount", "I", false)
  | 12 => ("StepGraph", "stepCount", "I", false)
  | 13 => ("StepGraph", "sentCount", "I", false)
  | 14 => ("StepGraph", "deliveredCount", "I", false)
  | _ => ("StepGraph", "crossedCount", "I", false)
def tyX0 : Nat → FieldType := fun k => match k with
  | 0 => .array .int
  | 1 => .array .int
  | 2 => .array .double
  | 3 => .int
  | 4 => .int
  | 5 => .int
  | 6 => .array .double
  | 7 => .array .boolean
  | 8 => .array (.array .double)
  | 9 => .boolean
  | 10 => .int
  | 11 => .int
  | 12 => .int
  | 13 => .int
  | 14 => .int
  | _ => .int
abbrev wsX00 : List Cond := u_ws RX0 TX0 16
theorem nmX0 : ∀ a, a < 16 → ∀ b, b < 16 → a ≠ b → (TX0 a).2.1 ≠ (TX0 b).2.1 := by decide +kernel
theorem tyX0_ok : ∀ k, k < 16 → parseFieldDescriptor (TX0 k).2.2.1 = some (tyX0 k) := by decide +kernel
abbrev cX0_init : ByteArray := prog_1_method_1_code
def yX0_init : MethodName := ⟨RX0, "<init>", "()V"⟩
abbrev cX0_size : ByteArray := prog_1_method_2_code
def yX0_size : MethodName := ⟨RX0, "size", "(I)Z"⟩
abbrev cX0_edge : ByteArray := prog_1_method_3_code
def yX0_edge : MethodName := ⟨RX0, "edge", "(IID)Z"⟩
abbrev cX0_parts : ByteArray := prog_1_method_4_code
def yX0_parts : MethodName := ⟨RX0, "parts", "(I)Z"⟩
abbrev cX0_begin : ByteArray := prog_1_method_5_code
def yX0_begin : MethodName := ⟨RX0, "begin", "(II)I"⟩
abbrev cX0_step : ByteArray := prog_1_method_6_code
def yX0_step : MethodName := ⟨RX0, "step", "()I"⟩
abbrev cX0_finish : ByteArray := prog_1_method_7_code
def yX0_finish : MethodName := ⟨RX0, "finish", "(I)I"⟩
abbrev cX0_over : ByteArray := prog_1_method_8_code
def yX0_over : MethodName := ⟨RX0, "over", "()Z"⟩
abbrev cX0_value : ByteArray := prog_1_method_9_code
def yX0_value : MethodName := ⟨RX0, "value", "(I)D"⟩
abbrev cX0_sum : ByteArray := prog_1_method_10_code
def yX0_sum : MethodName := ⟨RX0, "sum", "()D"⟩
abbrev cX0_steps : ByteArray := prog_1_method_11_code
def yX0_steps : MethodName := ⟨RX0, "steps", "()I"⟩
abbrev cX0_sent : ByteArray := prog_1_method_12_code
def yX0_sent : MethodName := ⟨RX0, "sent", "()I"⟩
abbrev cX0_delivered : ByteArray := prog_1_method_13_code
def yX0_delivered : MethodName := ⟨RX0, "delivered", "()I"⟩
abbrev cX0_crossed : ByteArray := prog_1_method_14_code
def yX0_crossed : MethodName := ⟨RX0, "crossed", "()I"⟩
abbrev cX0_pending : ByteArray := prog_1_method_15_code
def yX0_pending : MethodName := ⟨RX0, "pending", "(II)D"⟩
abbrev cX0_degree : ByteArray := prog_1_method_16_code
def yX0_degree : MethodName := ⟨RX0, "degree", "(I)I"⟩
abbrev cX0_isVertex : ByteArray := prog_1_method_17_code
def yX0_isVertex : MethodName := ⟨RX0, "isVertex", "(I)Z"⟩
abbrev cX0_isPart : ByteArray := prog_1_method_18_code
def yX0_isPart : MethodName := ⟨RX0, "isPart", "(I)Z"⟩
abbrev cX0_isWeight : ByteArray := prog_1_method_19_code
def yX0_isWeight : MethodName := ⟨RX0, "isWeight", "(D)Z"⟩
abbrev cX0_partOf : ByteArray := prog_1_method_20_code
def yX0_partOf : MethodName := ⟨RX0, "partOf", "(I)I"⟩
abbrev cX0_endRun : ByteArray := prog_1_method_21_code
def yX0_endRun : MethodName := ⟨RX0, "endRun", "()V"⟩
abbrev cX0_firstValue : ByteArray := prog_1_method_22_code
def yX0_firstValue : MethodName := ⟨RX0, "firstValue", "(II)D"⟩
abbrev cX0_messageOf : ByteArray := prog_1_method_23_code
def yX0_messageOf : MethodName := ⟨RX0, "messageOf", "(DD)D"⟩
abbrev cX0_isBetter : ByteArray := prog_1_method_24_code
def yX0_isBetter : MethodName := ⟨RX0, "isBetter", "(DD)Z"⟩
abbrev cX0_doStep : ByteArray := prog_1_method_25_code
def yX0_doStep : MethodName := ⟨RX0, "doStep", "()I"⟩
abbrev cX0_bestWaiting : ByteArray := prog_1_method_26_code
def yX0_bestWaiting : MethodName := ⟨RX0, "bestWaiting", "(I)D"⟩
abbrev cX0_endStep : ByteArray := prog_1_method_27_code
def yX0_endStep : MethodName := ⟨RX0, "endStep", "()V"⟩
abbrev cX0_clearWaiting : ByteArray := prog_1_method_28_code
def yX0_clearWaiting : MethodName := ⟨RX0, "clearWaiting", "()V"⟩
abbrev cX0_sendAlong : ByteArray := prog_1_method_29_code
def yX0_sendAlong : MethodName := ⟨RX0, "sendAlong", "(IID)V"⟩
abbrev cX0_countDelivery : ByteArray := prog_1_method_30_code
def yX0_countDelivery : MethodName := ⟨RX0, "countDelivery", "(II)V"⟩
def RX1 : String := "StepGraphModel"
def TX1 : u_T := fun k => match k with
  | 0 => ("StepGraphModel", "froms", "[I", true)
  | 1 => ("StepGraphModel", "tos", "[I", true)
  | 2 => ("StepGraphModel", "weights", "[D", true)
  | 3 => ("StepGraphModel", "n", "I", false)
  | 4 => ("StepGraphModel", "edges", "I", false)
  | 5 => ("StepGraphModel", "k", "I", false)
  | 6 => ("StepGraphModel", "begun", "Z", false)
  | 7 => ("StepGraphModel", "program", "I", false)
  | 8 => ("StepGraphModel", "steps", "I", false)
  | 9 => ("StepGraphModel", "sent", "I", false)
  | 10 => ("StepGraphModel", "delivered", "I", false)
  | 11 => ("StepGraphModel", "crossed", "I", false)
  | 12 => ("StepGraphModel", "thrown", "I", false)
  | 13 => ("StepGraphModel", "values", "[D", true)
  | 14 => ("StepGraphModel", "known", "[Z", true)
  | 15 => ("StepGraphModel", "coming", "[D", true)
  | 16 => ("StepGraphModel", "comes", "[Z", true)
  | 17 => ("StepGraphModel", "going", "[D", true)
  | 18 => ("StepGraphModel", "goes", "[Z", true)
  | _ => ("StepGraphModel", "speaks", "[Z", true)
def tyX1 : Nat → FieldType := fun k => match k with
  | 0 => .array .int
  | 1 => .array .int
  | 2 => .array .double
  | 3 => .int
  | 4 => .int
  | 5 => .int
  | 6 => .boolean
  | 7 => .int
  | 8 => .int
  | 9 => .int
  | 10 => .int
  | 11 => .int
  | 12 => .int
  | 13 => .array .double
  | 14 => .array .boolean
  | 15 => .array .double
  | 16 => .array .boolean
  | 17 => .array .double
  | 18 => .array .boolean
  | _ => .array .boolean
abbrev wsX10 : List Cond := u_ws RX1 TX1 20
theorem nmX1 : ∀ a, a < 20 → ∀ b, b < 20 → a ≠ b → (TX1 a).2.1 ≠ (TX1 b).2.1 := by decide +kernel
theorem tyX1_ok : ∀ k, k < 20 → parseFieldDescriptor (TX1 k).2.2.1 = some (tyX1 k) := by decide +kernel
abbrev cX1_init : ByteArray := prog_3_method_1_code
def yX1_init : MethodName := ⟨RX1, "<init>", "()V"⟩
abbrev cX1_thrown : ByteArray := prog_3_method_2_code
def yX1_thrown : MethodName := ⟨RX1, "thrown", "()I"⟩
abbrev cX1_isVertex : ByteArray := prog_3_method_3_code
def yX1_isVertex : MethodName := ⟨RX1, "isVertex", "(I)Z"⟩
abbrev cX1_forget : ByteArray := prog_3_method_4_code
def yX1_forget : MethodName := ⟨RX1, "forget", "()V"⟩
abbrev cX1_size : ByteArray := prog_3_method_5_code
def yX1_size : MethodName := ⟨RX1, "size", "(I)Z"⟩
abbrev cX1_edge : ByteArray := prog_3_method_6_code
def yX1_edge : MethodName := ⟨RX1, "edge", "(IID)Z"⟩
abbrev cX1_parts : ByteArray := prog_3_method_7_code
def yX1_parts : MethodName := ⟨RX1, "parts", "(I)Z"⟩
abbrev cX1_isBetter : ByteArray := prog_3_method_8_code
def yX1_isBetter : MethodName := ⟨RX1, "isBetter", "(DD)Z"⟩
abbrev cX1_message : ByteArray := prog_3_method_9_code
def yX1_message : MethodName := ⟨RX1, "message", "(DD)D"⟩
abbrev cX1_send : ByteArray := prog_3_method_10_code
def yX1_send : MethodName := ⟨RX1, "send", "(IID)V"⟩
abbrev cX1_sendAll : ByteArray := prog_3_method_11_code
def yX1_sendAll : MethodName := ⟨RX1, "sendAll", "()I"⟩
abbrev cX1_begin : ByteArray := prog_3_method_12_code
def yX1_begin : MethodName := ⟨RX1, "begin", "(II)I"⟩
abbrev cX1_isAny : ByteArray := prog_3_method_13_code
def yX1_isAny : MethodName := ⟨RX1, "isAny", "()Z"⟩
abbrev cX1_one : ByteArray := prog_3_method_14_code
def yX1_one : MethodName := ⟨RX1, "one", "()I"⟩
abbrev cX1_step : ByteArray := prog_3_method_15_code
def yX1_step : MethodName := ⟨RX1, "step", "()I"⟩
abbrev cX1_finish : ByteArray := prog_3_method_16_code
def yX1_finish : MethodName := ⟨RX1, "finish", "(I)I"⟩
abbrev cX1_over : ByteArray := prog_3_method_17_code
def yX1_over : MethodName := ⟨RX1, "over", "()Z"⟩
abbrev cX1_value : ByteArray := prog_3_method_18_code
def yX1_value : MethodName := ⟨RX1, "value", "(I)D"⟩
abbrev cX1_sum : ByteArray := prog_3_method_19_code
def yX1_sum : MethodName := ⟨RX1, "sum", "()D"⟩
abbrev cX1_steps : ByteArray := prog_3_method_20_code
def yX1_steps : MethodName := ⟨RX1, "steps", "()I"⟩
abbrev cX1_sent : ByteArray := prog_3_method_21_code
def yX1_sent : MethodName := ⟨RX1, "sent", "()I"⟩
abbrev cX1_delivered : ByteArray := prog_3_method_22_code
def yX1_delivered : MethodName := ⟨RX1, "delivered", "()I"⟩
abbrev cX1_crossed : ByteArray := prog_3_method_23_code
def yX1_crossed : MethodName := ⟨RX1, "crossed", "()I"⟩
abbrev cX1_pending : ByteArray := prog_3_method_24_code
def yX1_pending : MethodName := ⟨RX1, "pending", "(II)D"⟩
abbrev cX1_degree : ByteArray := prog_3_method_25_code
def yX1_degree : MethodName := ⟨RX1, "degree", "(I)I"⟩
def RJ0 : String := "java/lang/String"
def TJ0 : u_T := fun k => match k with
  | _ => ("", "", "", false)
def tyJ0 : Nat → FieldType := fun k => match k with
  | _ => .int
abbrev wsJ00 : List Cond := u_ws RJ0 TJ0 0
theorem nmJ0 : ∀ a, a < 0 → ∀ b, b < 0 → a ≠ b → (TJ0 a).2.1 ≠ (TJ0 b).2.1 := by decide +kernel
theorem tyJ0_ok : ∀ k, k < 0 → parseFieldDescriptor (TJ0 k).2.2.1 = some (tyJ0 k) := by decide +kernel
def RL : String := "StepGraphLaw"
abbrev cL_begin : ByteArray := method_3_code
def yL_begin : MethodName := ⟨RL, "begin", "(LStepGraph;II[J)I"⟩
abbrev cL_step : ByteArray := method_4_code
def yL_step : MethodName := ⟨RL, "step", "(LStepGraph;[J)I"⟩
abbrev cL_finish : ByteArray := method_5_code
def yL_finish : MethodName := ⟨RL, "finish", "(LStepGraph;I[J)I"⟩
abbrev cL_law : ByteArray := code
def yL_law : MethodName := ⟨RL, "law", "([I)Z"⟩
def wsX0_init : List Cond := .code yX0_init cX0_init 1 none :: ([.methodLink RX0 1 objectInit, .instanceMethod objectInit, .code objectInit ⟨#[0xb1]⟩ 1 none, .arrayClass .int, .fieldLink RX0 9 "StepGraph" "firstEnds" "[I", .fieldLink RX0 13 "StepGraph" "secondEnds" "[I", .arrayClass .double, .fieldLink RX0 16 "StepGraph" "weights" "[D", .fieldLink RX0 20 "StepGraph" "vertexCount" "I", .fieldLink RX0 24 "StepGraph" "edgeCount" "I", .fieldLink RX0 27 "StepGraph" "partCount" "I", .fieldLink RX0 30 "StepGraph" "values" "[D", .arrayClass .boolean, .fieldLink RX0 33 "StepGraph" "sends" "[Z", .classLink RX0 37 "[[D", .fieldLink RX0 39 "StepGraph" "waiting" "[[D", .fieldLink RX0 42 "StepGraph" "running" "Z", .fieldLink RX0 46 "StepGraph" "runProgram" "I", .fieldLink RX0 49 "StepGraph" "waitingCount" "I", .fieldLink RX0 52 "StepGraph" "stepCount" "I", .fieldLink RX0 55 "StepGraph" "sentCount" "I", .fieldLink RX0 58 "StepGraph" "deliveredCount" "I", .fieldLink RX0 61 "StepGraph" "crossedCount" "I"] ++ wsX00)
def wsX0_endRun : List Cond := .code yX0_endRun cX0_endRun 1 none :: ([.fieldLink RX0 42 "StepGraph" "running" "Z", .fieldLink RX0 49 "StepGraph" "waitingCount" "I", .fieldLink RX0 52 "StepGraph" "stepCount" "I", .fieldLink RX0 55 "StepGraph" "sentCount" "I", .fieldLink RX0 58 "StepGraph" "deliveredCount" "I", .fieldLink RX0 61 "StepGraph" "crossedCount" "I"] ++ wsX00)
def wsX0_size : List Cond := .code yX0_size cX0_size 2 (some .boolean) :: ([.fieldLink RX0 20 "StepGraph" "vertexCount" "I", .fieldLink RX0 24 "StepGraph" "edgeCount" "I", .methodLink RX0 64 yX0_endRun, .instanceMethod yX0_endRun, .selects RX0 yX0_endRun yX0_endRun, .initialized RX0, .code yX0_endRun cX0_endRun 1 none, .fieldLink RX0 42 "StepGraph" "running" "Z", .fieldLink RX0 49 "StepGraph" "waitingCount" "I", .fieldLink RX0 52 "StepGraph" "stepCount" "I", .fieldLink RX0 55 "StepGraph" "sentCount" "I", .fieldLink RX0 58 "StepGraph" "deliveredCount" "I", .fieldLink RX0 61 "StepGraph" "crossedCount" "I"] ++ wsX00)
def wsX0_isVertex : List Cond := .code yX0_isVertex cX0_isVertex 2 (some .boolean) :: ([.fieldLink RX0 20 "StepGraph" "vertexCount" "I"] ++ wsX00)
def wsX0_isWeight : List Cond := .code yX0_isWeight cX0_isWeight 2 (some .boolean) :: ([.constantDouble RX0 107 (4696837146684686336)])
def wsX0_edge : List Cond := .code yX0_edge cX0_edge 5 (some .boolean) :: ([.fieldLink RX0 24 "StepGraph" "edgeCount" "I", .fieldLink RX0 9 "StepGraph" "firstEnds" "[I", .fieldLink RX0 13 "StepGraph" "secondEnds" "[I", .fieldLink RX0 16 "StepGraph" "weights" "[D", .methodLink RX0 67 yX0_isVertex, .instanceMethod yX0_isVertex, .selects RX0 yX0_isVertex yX0_isVertex, .initialized RX0, .code yX0_isVertex cX0_isVertex 2 (some .boolean), .fieldLink RX0 20 "StepGraph" "vertexCount" "I", .methodLink RX0 71 yX0_isWeight, .static yX0_isWeight, .code yX0_isWeight cX0_isWeight 2 (some .boolean), .constantDouble RX0 107 (4696837146684686336), .methodLink RX0 64 yX0_endRun, .instanceMethod yX0_endRun, .selects RX0 yX0_endRun yX0_endRun, .code yX0_endRun cX0_endRun 1 none, .fieldLink RX0 42 "StepGraph" "running" "Z", .fieldLink RX0 49 "StepGraph" "waitingCount" "I", .fieldLink RX0 52 "StepGraph" "stepCount" "I", .fieldLink RX0 55 "StepGraph" "sentCount" "I", .fieldLink RX0 58 "StepGraph" "deliveredCount" "I", .fieldLink RX0 61 "StepGraph" "crossedCount" "I"] ++ wsX00)
def wsX0_parts : List Cond := .code yX0_parts cX0_parts 2 (some .boolean) :: ([.fieldLink RX0 27 "StepGraph" "partCount" "I", .methodLink RX0 64 yX0_endRun, .instanceMethod yX0_endRun, .selects RX0 yX0_endRun yX0_endRun, .initialized RX0, .code yX0_endRun cX0_endRun 1 none, .fieldLink RX0 42 "StepGraph" "running" "Z", .fieldLink RX0 49 "StepGraph" "waitingCount" "I", .fieldLink RX0 52 "StepGraph" "stepCount" "I", .fieldLink RX0 55 "StepGraph" "sentCount" "I", .fieldLink RX0 58 "StepGraph" "deliveredCount" "I", .fieldLink RX0 61 "StepGraph" "crossedCount" "I"] ++ wsX00)
def wsX0_firstValue : List Cond := .code yX0_firstValue cX0_firstValue 3 (some .double) :: ([.fieldLink RX0 46 "StepGraph" "runProgram" "I", .constantDouble RX0 88 (13830554455654793216), .constantDouble RX0 107 (4696837146684686336)] ++ wsX00)
def wsX0_clearWaiting : List Cond := .code yX0_clearWaiting cX0_clearWaiting 3 none :: ([.fieldLink RX0 20 "StepGraph" "vertexCount" "I", .fieldLink RX0 27 "StepGraph" "partCount" "I", .fieldLink RX0 39 "StepGraph" "waiting" "[[D", .constantDouble RX0 88 (13830554455654793216), .fieldLink RX0 49 "StepGraph" "waitingCount" "I"] ++ wsX00)
def wsX0_partOf : List Cond := .code yX0_partOf cX0_partOf 2 (some .int) :: ([.fieldLink RX0 27 "StepGraph" "partCount" "I"] ++ wsX00)
def wsX0_countDelivery : List Cond := .code yX0_countDelivery cX0_countDelivery 3 none :: ([.fieldLink RX0 49 "StepGraph" "waitingCount" "I", .fieldLink RX0 58 "StepGraph" "deliveredCount" "I", .fieldLink RX0 61 "StepGraph" "crossedCount" "I", .methodLink RX0 124 yX0_partOf, .instanceMethod yX0_partOf, .selects RX0 yX0_partOf yX0_partOf, .initialized RX0, .code yX0_partOf cX0_partOf 2 (some .int), .fieldLink RX0 27 "StepGraph" "partCount" "I"] ++ wsX00)
def wsX0_messageOf : List Cond := .code yX0_messageOf cX0_messageOf 5 (some .double) :: ([.fieldLink RX0 46 "StepGraph" "runProgram" "I"] ++ wsX00)
def wsX0_isBetter : List Cond := .code yX0_isBetter cX0_isBetter 5 (some .boolean) :: ([.constantDouble RX0 88 (13830554455654793216), .fieldLink RX0 46 "StepGraph" "runProgram" "I"] ++ wsX00)
def wsX0_sendAlong_r1 : List Cond := [Cond.fieldLink RX0 33 "StepGraph" "sends" "[Z", Cond.fieldLink RX0 55 "StepGraph" "sentCount" "I", Cond.fieldLink RX0 39 "StepGraph" "waiting" "[[D", Cond.constantDouble RX0 88 (13830554455654793216), Cond.fieldLink RX0 30 "StepGraph" "values" "[D", Cond.methodLink RX0 124 yX0_partOf, Cond.instanceMethod yX0_partOf, Cond.selects RX0 yX0_partOf yX0_partOf, Cond.initialized RX0, Cond.code yX0_partOf cX0_partOf 2 (some .int), Cond.fieldLink RX0 27 "StepGraph" "partCount" "I", Cond.methodLink RX0 128 yX0_countDelivery, Cond.instanceMethod yX0_countDelivery, Cond.selects RX0 yX0_countDelivery yX0_countDelivery, Cond.code yX0_countDelivery cX0_countDelivery 3 none, Cond.fieldLink RX0 49 "StepGraph" "waitingCount" "I", Cond.fieldLink RX0 58 "StepGraph" "deliveredCount" "I", Cond.fieldLink RX0 61 "StepGraph" "crossedCount" "I", Cond.methodLink RX0 132 yX0_messageOf, Cond.instanceMethod yX0_messageOf, Cond.selects RX0 yX0_messageOf yX0_messageOf, Cond.code yX0_messageOf cX0_messageOf 5 (some .double), Cond.fieldLink RX0 46 "StepGraph" "runProgram" "I", Cond.methodLink RX0 113 yX0_isBetter]
def wsX0_sendAlong_r2 : List Cond := [Cond.instanceMethod yX0_isBetter, Cond.selects RX0 yX0_isBetter yX0_isBetter, Cond.code yX0_isBetter cX0_isBetter 5 (some .boolean)]
def wsX0_sendAlong : List Cond := .code yX0_sendAlong cX0_sendAlong 8 none :: ((wsX0_sendAlong_r1 ++ wsX0_sendAlong_r2) ++ wsX00)
def wsX0_endStep_r1 : List Cond := [Cond.fieldLink RX0 24 "StepGraph" "edgeCount" "I", Cond.fieldLink RX0 9 "StepGraph" "firstEnds" "[I", Cond.fieldLink RX0 13 "StepGraph" "secondEnds" "[I", Cond.fieldLink RX0 16 "StepGraph" "weights" "[D", Cond.fieldLink RX0 52 "StepGraph" "stepCount" "I", Cond.methodLink RX0 117 yX0_clearWaiting, Cond.instanceMethod yX0_clearWaiting, Cond.selects RX0 yX0_clearWaiting yX0_clearWaiting, Cond.initialized RX0, Cond.code yX0_clearWaiting cX0_clearWaiting 3 none, Cond.fieldLink RX0 20 "StepGraph" "vertexCount" "I", Cond.fieldLink RX0 27 "StepGraph" "partCount" "I", Cond.fieldLink RX0 39 "StepGraph" "waiting" "[[D", Cond.constantDouble RX0 88 (13830554455654793216), Cond.fieldLink RX0 49 "StepGraph" "waitingCount" "I", Cond.methodLink RX0 120 yX0_sendAlong, Cond.instanceMethod yX0_sendAlong, Cond.selects RX0 yX0_sendAlong yX0_sendAlong, Cond.code yX0_sendAlong cX0_sendAlong 8 none, Cond.fieldLink RX0 33 "StepGraph" "sends" "[Z", Cond.fieldLink RX0 55 "StepGraph" "sentCount" "I", Cond.fieldLink RX0 30 "StepGraph" "values" "[D", Cond.methodLink RX0 124 yX0_partOf, Cond.instanceMethod yX0_partOf]
def wsX0_endStep_r2 : List Cond := [Cond.selects RX0 yX0_partOf yX0_partOf, Cond.code yX0_partOf cX0_partOf 2 (some .int), Cond.methodLink RX0 128 yX0_countDelivery, Cond.instanceMethod yX0_countDelivery, Cond.selects RX0 yX0_countDelivery yX0_countDelivery, Cond.code yX0_countDelivery cX0_countDelivery 3 none, Cond.fieldLink RX0 58 "StepGraph" "deliveredCount" "I", Cond.fieldLink RX0 61 "StepGraph" "crossedCount" "I", Cond.methodLink RX0 132 yX0_messageOf, Cond.instanceMethod yX0_messageOf, Cond.selects RX0 yX0_messageOf yX0_messageOf, Cond.code yX0_messageOf cX0_messageOf 5 (some .double), Cond.fieldLink RX0 46 "StepGraph" "runProgram" "I", Cond.methodLink RX0 113 yX0_isBetter, Cond.instanceMethod yX0_isBetter, Cond.selects RX0 yX0_isBetter yX0_isBetter, Cond.code yX0_isBetter cX0_isBetter 5 (some .boolean)]
def wsX0_endStep : List Cond := .code yX0_endStep cX0_endStep 2 none :: ((wsX0_endStep_r1 ++ wsX0_endStep_r2) ++ wsX00)
def wsX0_begin_r1 : List Cond := [Cond.classLink RX0 75 "java/lang/IllegalArgumentException", Cond.initialized "java/lang/IllegalArgumentException", Cond.fieldLink RX0 42 "StepGraph" "running" "Z", Cond.fieldLink RX0 46 "StepGraph" "runProgram" "I", Cond.fieldLink RX0 20 "StepGraph" "vertexCount" "I", Cond.fieldLink RX0 30 "StepGraph" "values" "[D", Cond.fieldLink RX0 33 "StepGraph" "sends" "[Z", Cond.constantDouble RX0 88 (13830554455654793216), Cond.fieldLink RX0 49 "StepGraph" "waitingCount" "I", Cond.methodLink RX0 67 yX0_isVertex, Cond.instanceMethod yX0_isVertex, Cond.selects RX0 yX0_isVertex yX0_isVertex, Cond.initialized RX0, Cond.code yX0_isVertex cX0_isVertex 2 (some .boolean), Cond.methodLink RX0 64 yX0_endRun, Cond.instanceMethod yX0_endRun, Cond.selects RX0 yX0_endRun yX0_endRun, Cond.code yX0_endRun cX0_endRun 1 none, Cond.fieldLink RX0 52 "StepGraph" "stepCount" "I", Cond.fieldLink RX0 55 "StepGraph" "sentCount" "I", Cond.fieldLink RX0 58 "StepGraph" "deliveredCount" "I", Cond.fieldLink RX0 61 "StepGraph" "crossedCount" "I", Cond.methodLink RX0 84 yX0_firstValue, Cond.instanceMethod yX0_firstValue]
def wsX0_begin_r2 : List Cond := [Cond.selects RX0 yX0_firstValue yX0_firstValue, Cond.code yX0_firstValue cX0_firstValue 3 (some .double), Cond.constantDouble RX0 107 (4696837146684686336), Cond.methodLink RX0 90 yX0_endStep, Cond.instanceMethod yX0_endStep, Cond.selects RX0 yX0_endStep yX0_endStep, Cond.code yX0_endStep cX0_endStep 2 none, Cond.fieldLink RX0 24 "StepGraph" "edgeCount" "I", Cond.fieldLink RX0 9 "StepGraph" "firstEnds" "[I", Cond.fieldLink RX0 13 "StepGraph" "secondEnds" "[I", Cond.fieldLink RX0 16 "StepGraph" "weights" "[D", Cond.methodLink RX0 117 yX0_clearWaiting, Cond.instanceMethod yX0_clearWaiting, Cond.selects RX0 yX0_clearWaiting yX0_clearWaiting, Cond.code yX0_clearWaiting cX0_clearWaiting 3 none, Cond.fieldLink RX0 27 "StepGraph" "partCount" "I", Cond.fieldLink RX0 39 "StepGraph" "waiting" "[[D", Cond.methodLink RX0 120 yX0_sendAlong, Cond.instanceMethod yX0_sendAlong, Cond.selects RX0 yX0_sendAlong yX0_sendAlong, Cond.code yX0_sendAlong cX0_sendAlong 8 none, Cond.methodLink RX0 124 yX0_partOf, Cond.instanceMethod yX0_partOf, Cond.selects RX0 yX0_partOf yX0_partOf]
def wsX0_begin_r3 : List Cond := [Cond.code yX0_partOf cX0_partOf 2 (some .int), Cond.methodLink RX0 128 yX0_countDelivery, Cond.instanceMethod yX0_countDelivery, Cond.selects RX0 yX0_countDelivery yX0_countDelivery, Cond.code yX0_countDelivery cX0_countDelivery 3 none, Cond.methodLink RX0 132 yX0_messageOf, Cond.instanceMethod yX0_messageOf, Cond.selects RX0 yX0_messageOf yX0_messageOf, Cond.code yX0_messageOf cX0_messageOf 5 (some .double), Cond.methodLink RX0 113 yX0_isBetter, Cond.instanceMethod yX0_isBetter, Cond.selects RX0 yX0_isBetter yX0_isBetter, Cond.code yX0_isBetter cX0_isBetter 5 (some .boolean)]
def wsX0_begin : List Cond := .code yX0_begin cX0_begin 4 (some .int) :: ((wsX0_begin_r1 ++ (wsX0_begin_r2 ++ wsX0_begin_r3)) ++ wsX00 ++ (vx_atS RX0 79 "java/lang/IllegalArgumentException" ["java/lang/RuntimeException", "java/lang/Exception"]).filter goodWord)
def wsX0_bestWaiting : List Cond := .code yX0_bestWaiting cX0_bestWaiting 5 (some .double) :: ([.constantDouble RX0 88 (13830554455654793216), .fieldLink RX0 27 "StepGraph" "partCount" "I", .fieldLink RX0 39 "StepGraph" "waiting" "[[D", .methodLink RX0 113 yX0_isBetter, .instanceMethod yX0_isBetter, .selects RX0 yX0_isBetter yX0_isBetter, .initialized RX0, .code yX0_isBetter cX0_isBetter 5 (some .boolean), .fieldLink RX0 46 "StepGraph" "runProgram" "I"] ++ wsX00)
def wsX0_doStep_r1 : List Cond := [Cond.fieldLink RX0 20 "StepGraph" "vertexCount" "I", Cond.constantDouble RX0 88 (13830554455654793216), Cond.fieldLink RX0 33 "StepGraph" "sends" "[Z", Cond.fieldLink RX0 30 "StepGraph" "values" "[D", Cond.methodLink RX0 109 yX0_bestWaiting, Cond.instanceMethod yX0_bestWaiting, Cond.selects RX0 yX0_bestWaiting yX0_bestWaiting, Cond.initialized RX0, Cond.code yX0_bestWaiting cX0_bestWaiting 5 (some .double), Cond.fieldLink RX0 27 "StepGraph" "partCount" "I", Cond.fieldLink RX0 39 "StepGraph" "waiting" "[[D", Cond.methodLink RX0 113 yX0_isBetter, Cond.instanceMethod yX0_isBetter, Cond.selects RX0 yX0_isBetter yX0_isBetter, Cond.code yX0_isBetter cX0_isBetter 5 (some .boolean), Cond.fieldLink RX0 46 "StepGraph" "runProgram" "I", Cond.methodLink RX0 90 yX0_endStep, Cond.instanceMethod yX0_endStep, Cond.selects RX0 yX0_endStep yX0_endStep, Cond.code yX0_endStep cX0_endStep 2 none, Cond.fieldLink RX0 24 "StepGraph" "edgeCount" "I", Cond.fieldLink RX0 9 "StepGraph" "firstEnds" "[I", Cond.fieldLink RX0 13 "StepGraph" "secondEnds" "[I", Cond.fieldLink RX0 16 "StepGraph" "weights" "[D"]
def wsX0_doStep_r2 : List Cond := [Cond.fieldLink RX0 52 "StepGraph" "stepCount" "I", Cond.methodLink RX0 117 yX0_clearWaiting, Cond.instanceMethod yX0_clearWaiting, Cond.selects RX0 yX0_clearWaiting yX0_clearWaiting, Cond.code yX0_clearWaiting cX0_clearWaiting 3 none, Cond.fieldLink RX0 49 "StepGraph" "waitingCount" "I", Cond.methodLink RX0 120 yX0_sendAlong, Cond.instanceMethod yX0_sendAlong, Cond.selects RX0 yX0_sendAlong yX0_sendAlong, Cond.code yX0_sendAlong cX0_sendAlong 8 none, Cond.fieldLink RX0 55 "StepGraph" "sentCount" "I", Cond.methodLink RX0 124 yX0_partOf, Cond.instanceMethod yX0_partOf, Cond.selects RX0 yX0_partOf yX0_partOf, Cond.code yX0_partOf cX0_partOf 2 (some .int), Cond.methodLink RX0 128 yX0_countDelivery, Cond.instanceMethod yX0_countDelivery, Cond.selects RX0 yX0_countDelivery yX0_countDelivery, Cond.code yX0_countDelivery cX0_countDelivery 3 none, Cond.fieldLink RX0 58 "StepGraph" "deliveredCount" "I", Cond.fieldLink RX0 61 "StepGraph" "crossedCount" "I", Cond.methodLink RX0 132 yX0_messageOf, Cond.instanceMethod yX0_messageOf, Cond.selects RX0 yX0_messageOf yX0_messageOf]
def wsX0_doStep_r3 : List Cond := [Cond.code yX0_messageOf cX0_messageOf 5 (some .double)]
def wsX0_doStep : List Cond := .code yX0_doStep cX0_doStep 5 (some .int) :: ((wsX0_doStep_r1 ++ (wsX0_doStep_r2 ++ wsX0_doStep_r3)) ++ wsX00)
def wsX0_step_r1 : List Cond := [Cond.classLink RX0 93 "java/lang/IllegalStateException", Cond.initialized "java/lang/IllegalStateException", Cond.fieldLink RX0 42 "StepGraph" "running" "Z", Cond.fieldLink RX0 49 "StepGraph" "waitingCount" "I", Cond.methodLink RX0 100 yX0_doStep, Cond.instanceMethod yX0_doStep, Cond.selects RX0 yX0_doStep yX0_doStep, Cond.initialized RX0, Cond.code yX0_doStep cX0_doStep 5 (some .int), Cond.fieldLink RX0 20 "StepGraph" "vertexCount" "I", Cond.constantDouble RX0 88 (13830554455654793216), Cond.fieldLink RX0 33 "StepGraph" "sends" "[Z", Cond.fieldLink RX0 30 "StepGraph" "values" "[D", Cond.methodLink RX0 109 yX0_bestWaiting, Cond.instanceMethod yX0_bestWaiting, Cond.selects RX0 yX0_bestWaiting yX0_bestWaiting, Cond.code yX0_bestWaiting cX0_bestWaiting 5 (some .double), Cond.fieldLink RX0 27 "StepGraph" "partCount" "I", Cond.fieldLink RX0 39 "StepGraph" "waiting" "[[D", Cond.methodLink RX0 113 yX0_isBetter, Cond.instanceMethod yX0_isBetter, Cond.selects RX0 yX0_isBetter yX0_isBetter, Cond.code yX0_isBetter cX0_isBetter 5 (some .boolean), Cond.fieldLink RX0 46 "StepGraph" "runProgram" "I"]
def wsX0_step_r2 : List Cond := [Cond.methodLink RX0 90 yX0_endStep, Cond.instanceMethod yX0_endStep, Cond.selects RX0 yX0_endStep yX0_endStep, Cond.code yX0_endStep cX0_endStep 2 none, Cond.fieldLink RX0 24 "StepGraph" "edgeCount" "I", Cond.fieldLink RX0 9 "StepGraph" "firstEnds" "[I", Cond.fieldLink RX0 13 "StepGraph" "secondEnds" "[I", Cond.fieldLink RX0 16 "StepGraph" "weights" "[D", Cond.fieldLink RX0 52 "StepGraph" "stepCount" "I", Cond.methodLink RX0 117 yX0_clearWaiting, Cond.instanceMethod yX0_clearWaiting, Cond.selects RX0 yX0_clearWaiting yX0_clearWaiting, Cond.code yX0_clearWaiting cX0_clearWaiting 3 none, Cond.methodLink RX0 120 yX0_sendAlong, Cond.instanceMethod yX0_sendAlong, Cond.selects RX0 yX0_sendAlong yX0_sendAlong, Cond.code yX0_sendAlong cX0_sendAlong 8 none, Cond.fieldLink RX0 55 "StepGraph" "sentCount" "I", Cond.methodLink RX0 124 yX0_partOf, Cond.instanceMethod yX0_partOf, Cond.selects RX0 yX0_partOf yX0_partOf, Cond.code yX0_partOf cX0_partOf 2 (some .int), Cond.methodLink RX0 128 yX0_countDelivery, Cond.instanceMethod yX0_countDelivery]
def wsX0_step_r3 : List Cond := [Cond.selects RX0 yX0_countDelivery yX0_countDelivery, Cond.code yX0_countDelivery cX0_countDelivery 3 none, Cond.fieldLink RX0 58 "StepGraph" "deliveredCount" "I", Cond.fieldLink RX0 61 "StepGraph" "crossedCount" "I", Cond.methodLink RX0 132 yX0_messageOf, Cond.instanceMethod yX0_messageOf, Cond.selects RX0 yX0_messageOf yX0_messageOf, Cond.code yX0_messageOf cX0_messageOf 5 (some .double)]
def wsX0_step : List Cond := .code yX0_step cX0_step 1 (some .int) :: ((wsX0_step_r1 ++ (wsX0_step_r2 ++ wsX0_step_r3)) ++ wsX00 ++ (vx_atS RX0 97 "java/lang/IllegalStateException" ["java/lang/RuntimeException", "java/lang/Exception"]).filter goodWord)
def wsX0_finish_r1 : List Cond := [Cond.classLink RX0 93 "java/lang/IllegalStateException", Cond.initialized "java/lang/IllegalStateException", Cond.fieldLink RX0 42 "StepGraph" "running" "Z", Cond.fieldLink RX0 49 "StepGraph" "waitingCount" "I", Cond.methodLink RX0 100 yX0_doStep, Cond.instanceMethod yX0_doStep, Cond.selects RX0 yX0_doStep yX0_doStep, Cond.initialized RX0, Cond.code yX0_doStep cX0_doStep 5 (some .int), Cond.fieldLink RX0 20 "StepGraph" "vertexCount" "I", Cond.constantDouble RX0 88 (13830554455654793216), Cond.fieldLink RX0 33 "StepGraph" "sends" "[Z", Cond.fieldLink RX0 30 "StepGraph" "values" "[D", Cond.methodLink RX0 109 yX0_bestWaiting, Cond.instanceMethod yX0_bestWaiting, Cond.selects RX0 yX0_bestWaiting yX0_bestWaiting, Cond.code yX0_bestWaiting cX0_bestWaiting 5 (some .double), Cond.fieldLink RX0 27 "StepGraph" "partCount" "I", Cond.fieldLink RX0 39 "StepGraph" "waiting" "[[D", Cond.methodLink RX0 113 yX0_isBetter, Cond.instanceMethod yX0_isBetter, Cond.selects RX0 yX0_isBetter yX0_isBetter, Cond.code yX0_isBetter cX0_isBetter 5 (some .boolean), Cond.fieldLink RX0 46 "StepGraph" "runProgram" "I"]
def wsX0_finish_r2 : List Cond := [Cond.methodLink RX0 90 yX0_endStep, Cond.instanceMethod yX0_endStep, Cond.selects RX0 yX0_endStep yX0_endStep, Cond.code yX0_endStep cX0_endStep 2 none, Cond.fieldLink RX0 24 "StepGraph" "edgeCount" "I", Cond.fieldLink RX0 9 "StepGraph" "firstEnds" "[I", Cond.fieldLink RX0 13 "StepGraph" "secondEnds" "[I", Cond.fieldLink RX0 16 "StepGraph" "weights" "[D", Cond.fieldLink RX0 52 "StepGraph" "stepCount" "I", Cond.methodLink RX0 117 yX0_clearWaiting, Cond.instanceMethod yX0_clearWaiting, Cond.selects RX0 yX0_clearWaiting yX0_clearWaiting, Cond.code yX0_clearWaiting cX0_clearWaiting 3 none, Cond.methodLink RX0 120 yX0_sendAlong, Cond.instanceMethod yX0_sendAlong, Cond.selects RX0 yX0_sendAlong yX0_sendAlong, Cond.code yX0_sendAlong cX0_sendAlong 8 none, Cond.fieldLink RX0 55 "StepGraph" "sentCount" "I", Cond.methodLink RX0 124 yX0_partOf, Cond.instanceMethod yX0_partOf, Cond.selects RX0 yX0_partOf yX0_partOf, Cond.code yX0_partOf cX0_partOf 2 (some .int), Cond.methodLink RX0 128 yX0_countDelivery, Cond.instanceMethod yX0_countDelivery]
def wsX0_finish_r3 : List Cond := [Cond.selects RX0 yX0_countDelivery yX0_countDelivery, Cond.code yX0_countDelivery cX0_countDelivery 3 none, Cond.fieldLink RX0 58 "StepGraph" "deliveredCount" "I", Cond.fieldLink RX0 61 "StepGraph" "crossedCount" "I", Cond.methodLink RX0 132 yX0_messageOf, Cond.instanceMethod yX0_messageOf, Cond.selects RX0 yX0_messageOf yX0_messageOf, Cond.code yX0_messageOf cX0_messageOf 5 (some .double)]
def wsX0_finish : List Cond := .code yX0_finish cX0_finish 3 (some .int) :: ((wsX0_finish_r1 ++ (wsX0_finish_r2 ++ wsX0_finish_r3)) ++ wsX00 ++ (vx_atS RX0 97 "java/lang/IllegalStateException" ["java/lang/RuntimeException", "java/lang/Exception"]).filter goodWord)
def wsX0_over : List Cond := .code yX0_over cX0_over 1 (some .boolean) :: ([.fieldLink RX0 42 "StepGraph" "running" "Z", .fieldLink RX0 49 "StepGraph" "waitingCount" "I"] ++ wsX00)
def wsX0_value : List Cond := .code yX0_value cX0_value 2 (some .double) :: ([.fieldLink RX0 42 "StepGraph" "running" "Z", .fieldLink RX0 30 "StepGraph" "values" "[D", .constantDouble RX0 88 (13830554455654793216), .methodLink RX0 67 yX0_isVertex, .instanceMethod yX0_isVertex, .selects RX0 yX0_isVertex yX0_isVertex, .initialized RX0, .code yX0_isVertex cX0_isVertex 2 (some .boolean), .fieldLink RX0 20 "StepGraph" "vertexCount" "I"] ++ wsX00)
def wsX0_sum : List Cond := .code yX0_sum cX0_sum 4 (some .double) :: ([.fieldLink RX0 42 "StepGraph" "running" "Z", .fieldLink RX0 20 "StepGraph" "vertexCount" "I", .fieldLink RX0 30 "StepGraph" "values" "[D", .constantDouble RX0 88 (13830554455654793216)] ++ wsX00)
def wsX0_steps : List Cond := .code yX0_steps cX0_steps 1 (some .int) :: ([.fieldLink RX0 52 "StepGraph" "stepCount" "I"] ++ wsX00)
def wsX0_sent : List Cond := .code yX0_sent cX0_sent 1 (some .int) :: ([.fieldLink RX0 55 "StepGraph" "sentCount" "I"] ++ wsX00)
def wsX0_delivered : List Cond := .code yX0_delivered cX0_delivered 1 (some .int) :: ([.fieldLink RX0 58 "StepGraph" "deliveredCount" "I"] ++ wsX00)
def wsX0_crossed : List Cond := .code yX0_crossed cX0_crossed 1 (some .int) :: ([.fieldLink RX0 61 "StepGraph" "crossedCount" "I"] ++ wsX00)
def wsX0_isPart : List Cond := .code yX0_isPart cX0_isPart 2 (some .boolean) :: ([.fieldLink RX0 27 "StepGraph" "partCount" "I"] ++ wsX00)
def wsX0_pending : List Cond := .code yX0_pending cX0_pending 3 (some .double) :: ([.fieldLink RX0 42 "StepGraph" "running" "Z", .fieldLink RX0 39 "StepGraph" "waiting" "[[D", .constantDouble RX0 88 (13830554455654793216), .methodLink RX0 67 yX0_isVertex, .instanceMethod yX0_isVertex, .selects RX0 yX0_isVertex yX0_isVertex, .initialized RX0, .code yX0_isVertex cX0_isVertex 2 (some .boolean), .fieldLink RX0 20 "StepGraph" "vertexCount" "I", .methodLink RX0 104 yX0_isPart, .instanceMethod yX0_isPart, .selects RX0 yX0_isPart yX0_isPart, .code yX0_isPart cX0_isPart 2 (some .boolean), .fieldLink RX0 27 "StepGraph" "partCount" "I"] ++ wsX00)
def wsX0_degree : List Cond := .code yX0_degree cX0_degree 4 (some .int) :: ([.fieldLink RX0 24 "StepGraph" "edgeCount" "I", .fieldLink RX0 9 "StepGraph" "firstEnds" "[I", .fieldLink RX0 13 "StepGraph" "secondEnds" "[I", .methodLink RX0 67 yX0_isVertex, .instanceMethod yX0_isVertex, .selects RX0 yX0_isVertex yX0_isVertex, .initialized RX0, .code yX0_isVertex cX0_isVertex 2 (some .boolean), .fieldLink RX0 20 "StepGraph" "vertexCount" "I"] ++ wsX00)
def wsX1_init : List Cond := .code yX1_init cX1_init 1 none :: ([.methodLink RX1 1 objectInit, .instanceMethod objectInit, .code objectInit ⟨#[0xb1]⟩ 1 none, .arrayClass .int, .fieldLink RX1 7 "StepGraphModel" "froms" "[I", .fieldLink RX1 13 "StepGraphModel" "tos" "[I", .arrayClass .double, .fieldLink RX1 16 "StepGraphModel" "weights" "[D", .fieldLink RX1 20 "StepGraphModel" "n" "I", .fieldLink RX1 24 "StepGraphModel" "k" "I", .fieldLink RX1 27 "StepGraphModel" "values" "[D", .arrayClass .boolean, .fieldLink RX1 30 "StepGraphModel" "known" "[Z", .fieldLink RX1 34 "StepGraphModel" "coming" "[D", .fieldLink RX1 37 "StepGraphModel" "comes" "[Z", .fieldLink RX1 40 "StepGraphModel" "going" "[D", .fieldLink RX1 43 "StepGraphModel" "goes" "[Z", .fieldLink RX1 46 "StepGraphModel" "speaks" "[Z"] ++ wsX10)
def wsX1_thrown : List Cond := .code yX1_thrown cX1_thrown 1 (some .int) :: ([.fieldLink RX1 49 "StepGraphModel" "thrown" "I"] ++ wsX10)
def wsX1_isVertex : List Cond := .code yX1_isVertex cX1_isVertex 2 (some .boolean) :: ([.fieldLink RX1 20 "StepGraphModel" "n" "I"] ++ wsX10)
def wsX1_forget : List Cond := .code yX1_forget cX1_forget 2 none :: ([.fieldLink RX1 52 "StepGraphModel" "begun" "Z", .fieldLink RX1 56 "StepGraphModel" "steps" "I", .fieldLink RX1 59 "StepGraphModel" "sent" "I", .fieldLink RX1 62 "StepGraphModel" "delivered" "I", .fieldLink RX1 65 "StepGraphModel" "crossed" "I", .fieldLink RX1 37 "StepGraphModel" "comes" "[Z", .fieldLink RX1 30 "StepGraphModel" "known" "[Z"] ++ wsX10)
def wsX1_size : List Cond := .code yX1_size cX1_size 2 (some .boolean) :: ([.fieldLink RX1 20 "StepGraphModel" "n" "I", .fieldLink RX1 68 "StepGraphModel" "edges" "I", .methodLink RX1 71 yX1_forget, .instanceMethod yX1_forget, .selects RX1 yX1_forget yX1_forget, .initialized RX1, .code yX1_forget cX1_forget 2 none, .fieldLink RX1 52 "StepGraphModel" "begun" "Z", .fieldLink RX1 56 "StepGraphModel" "steps" "I", .fieldLink RX1 59 "StepGraphModel" "sent" "I", .fieldLink RX1 62 "StepGraphModel" "delivered" "I", .fieldLink RX1 65 "StepGraphModel" "crossed" "I", .fieldLink RX1 37 "StepGraphModel" "comes" "[Z", .fieldLink RX1 30 "StepGraphModel" "known" "[Z"] ++ wsX10)
def wsX1_edge : List Cond := .code yX1_edge cX1_edge 5 (some .boolean) :: ([.constantDouble RX1 78 (4696837146684686336), .fieldLink RX1 68 "StepGraphModel" "edges" "I", .fieldLink RX1 7 "StepGraphModel" "froms" "[I", .fieldLink RX1 13 "StepGraphModel" "tos" "[I", .fieldLink RX1 16 "StepGraphModel" "weights" "[D", .methodLink RX1 74 yX1_isVertex, .instanceMethod yX1_isVertex, .selects RX1 yX1_isVertex yX1_isVertex, .initialized RX1, .code yX1_isVertex cX1_isVertex 2 (some .boolean), .fieldLink RX1 20 "StepGraphModel" "n" "I", .methodLink RX1 71 yX1_forget, .instanceMethod yX1_forget, .selects RX1 yX1_forget yX1_forget, .code yX1_forget cX1_forget 2 none, .fieldLink RX1 52 "StepGraphModel" "begun" "Z", .fieldLink RX1 56 "StepGraphModel" "steps" "I", .fieldLink RX1 59 "StepGraphModel" "sent" "I", .fieldLink RX1 62 "StepGraphModel" "delivered" "I", .fieldLink RX1 65 "StepGraphModel" "crossed" "I", .fieldLink RX1 37 "StepGraphModel" "comes" "[Z", .fieldLink RX1 30 "StepGraphModel" "known" "[Z"] ++ wsX10)
def wsX1_parts : List Cond := .code yX1_parts cX1_parts 2 (some .boolean) :: ([.fieldLink RX1 24 "StepGraphModel" "k" "I", .methodLink RX1 71 yX1_forget, .instanceMethod yX1_forget, .selects RX1 yX1_forget yX1_forget, .initialized RX1, .code yX1_forget cX1_forget 2 none, .fieldLink RX1 52 "StepGraphModel" "begun" "Z", .fieldLink RX1 56 "StepGraphModel" "steps" "I", .fieldLink RX1 59 "StepGraphModel" "sent" "I", .fieldLink RX1 62 "StepGraphModel" "delivered" "I", .fieldLink RX1 65 "StepGraphModel" "crossed" "I", .fieldLink RX1 37 "StepGraphModel" "comes" "[Z", .fieldLink RX1 30 "StepGraphModel" "known" "[Z"] ++ wsX10)
def wsX1_isBetter : List Cond := .code yX1_isBetter cX1_isBetter 5 (some .boolean) :: ([.fieldLink RX1 80 "StepGraphModel" "program" "I"] ++ wsX10)
def wsX1_message : List Cond := .code yX1_message cX1_message 5 (some .double) :: ([.fieldLink RX1 80 "StepGraphModel" "program" "I"] ++ wsX10)
def wsX1_send : List Cond := .code yX1_send cX1_send 8 none :: ([.fieldLink RX1 46 "StepGraphModel" "speaks" "[Z", .fieldLink RX1 59 "StepGraphModel" "sent" "I", .fieldLink RX1 24 "StepGraphModel" "k" "I", .fieldLink RX1 27 "StepGraphModel" "values" "[D", .fieldLink RX1 43 "StepGraphModel" "goes" "[Z", .fieldLink RX1 40 "StepGraphModel" "going" "[D", .methodLink RX1 83 yX1_message, .instanceMethod yX1_message, .selects RX1 yX1_message yX1_message, .initialized RX1, .code yX1_message cX1_message 5 (some .double), .fieldLink RX1 80 "StepGraphModel" "program" "I", .methodLink RX1 87 yX1_isBetter, .instanceMethod yX1_isBetter, .selects RX1 yX1_isBetter yX1_isBetter, .code yX1_isBetter cX1_isBetter 5 (some .boolean)] ++ wsX10)
def wsX1_sendAll_r1 : List Cond := [Cond.fieldLink RX1 43 "StepGraphModel" "goes" "[Z", Cond.fieldLink RX1 68 "StepGraphModel" "edges" "I", Cond.fieldLink RX1 7 "StepGraphModel" "froms" "[I", Cond.fieldLink RX1 13 "StepGraphModel" "tos" "[I", Cond.fieldLink RX1 16 "StepGraphModel" "weights" "[D", Cond.fieldLink RX1 37 "StepGraphModel" "comes" "[Z", Cond.fieldLink RX1 34 "StepGraphModel" "coming" "[D", Cond.fieldLink RX1 40 "StepGraphModel" "going" "[D", Cond.fieldLink RX1 24 "StepGraphModel" "k" "I", Cond.fieldLink RX1 65 "StepGraphModel" "crossed" "I", Cond.fieldLink RX1 62 "StepGraphModel" "delivered" "I", Cond.fieldLink RX1 56 "StepGraphModel" "steps" "I", Cond.methodLink RX1 91 yX1_send, Cond.instanceMethod yX1_send, Cond.selects RX1 yX1_send yX1_send, Cond.initialized RX1, Cond.code yX1_send cX1_send 8 none, Cond.fieldLink RX1 46 "StepGraphModel" "speaks" "[Z", Cond.fieldLink RX1 59 "StepGraphModel" "sent" "I", Cond.fieldLink RX1 27 "StepGraphModel" "values" "[D", Cond.methodLink RX1 83 yX1_message, Cond.instanceMethod yX1_message, Cond.selects RX1 yX1_message yX1_message, Cond.code yX1_message cX1_message 5 (some .double)]
def wsX1_sendAll_r2 : List Cond := [Cond.fieldLink RX1 80 "StepGraphModel" "program" "I", Cond.methodLink RX1 87 yX1_isBetter, Cond.instanceMethod yX1_isBetter, Cond.selects RX1 yX1_isBetter yX1_isBetter, Cond.code yX1_isBetter cX1_isBetter 5 (some .boolean)]
def wsX1_sendAll : List Cond := .code yX1_sendAll cX1_sendAll 3 (some .int) :: ((wsX1_sendAll_r1 ++ wsX1_sendAll_r2) ++ wsX10)
def wsX1_begin_r1 : List Cond := [Cond.fieldLink RX1 49 "StepGraphModel" "thrown" "I", Cond.fieldLink RX1 52 "StepGraphModel" "begun" "Z", Cond.fieldLink RX1 80 "StepGraphModel" "program" "I", Cond.fieldLink RX1 20 "StepGraphModel" "n" "I", Cond.fieldLink RX1 30 "StepGraphModel" "known" "[Z", Cond.fieldLink RX1 27 "StepGraphModel" "values" "[D", Cond.constantDouble RX1 78 (4696837146684686336), Cond.fieldLink RX1 46 "StepGraphModel" "speaks" "[Z", Cond.methodLink RX1 74 yX1_isVertex, Cond.instanceMethod yX1_isVertex, Cond.selects RX1 yX1_isVertex yX1_isVertex, Cond.initialized RX1, Cond.code yX1_isVertex cX1_isVertex 2 (some .boolean), Cond.methodLink RX1 71 yX1_forget, Cond.instanceMethod yX1_forget, Cond.selects RX1 yX1_forget yX1_forget, Cond.code yX1_forget cX1_forget 2 none, Cond.fieldLink RX1 56 "StepGraphModel" "steps" "I", Cond.fieldLink RX1 59 "StepGraphModel" "sent" "I", Cond.fieldLink RX1 62 "StepGraphModel" "delivered" "I", Cond.fieldLink RX1 65 "StepGraphModel" "crossed" "I", Cond.fieldLink RX1 37 "StepGraphModel" "comes" "[Z", Cond.methodLink RX1 95 yX1_sendAll, Cond.instanceMethod yX1_sendAll]
def wsX1_begin_r2 : List Cond := [Cond.selects RX1 yX1_sendAll yX1_sendAll, Cond.code yX1_sendAll cX1_sendAll 3 (some .int), Cond.fieldLink RX1 43 "StepGraphModel" "goes" "[Z", Cond.fieldLink RX1 68 "StepGraphModel" "edges" "I", Cond.fieldLink RX1 7 "StepGraphModel" "froms" "[I", Cond.fieldLink RX1 13 "StepGraphModel" "tos" "[I", Cond.fieldLink RX1 16 "StepGraphModel" "weights" "[D", Cond.fieldLink RX1 34 "StepGraphModel" "coming" "[D", Cond.fieldLink RX1 40 "StepGraphModel" "going" "[D", Cond.fieldLink RX1 24 "StepGraphModel" "k" "I", Cond.methodLink RX1 91 yX1_send, Cond.instanceMethod yX1_send, Cond.selects RX1 yX1_send yX1_send, Cond.code yX1_send cX1_send 8 none, Cond.methodLink RX1 83 yX1_message, Cond.instanceMethod yX1_message, Cond.selects RX1 yX1_message yX1_message, Cond.code yX1_message cX1_message 5 (some .double), Cond.methodLink RX1 87 yX1_isBetter, Cond.instanceMethod yX1_isBetter, Cond.selects RX1 yX1_isBetter yX1_isBetter, Cond.code yX1_isBetter cX1_isBetter 5 (some .boolean)]
def wsX1_begin : List Cond := .code yX1_begin cX1_begin 4 (some .int) :: ((wsX1_begin_r1 ++ wsX1_begin_r2) ++ wsX10)
def wsX1_isAny : List Cond := .code yX1_isAny cX1_isAny 2 (some .boolean) :: ([.fieldLink RX1 37 "StepGraphModel" "comes" "[Z"] ++ wsX10)
def wsX1_one_r1 : List Cond := [Cond.fieldLink RX1 20 "StepGraphModel" "n" "I", Cond.fieldLink RX1 46 "StepGraphModel" "speaks" "[Z", Cond.fieldLink RX1 37 "StepGraphModel" "comes" "[Z", Cond.fieldLink RX1 34 "StepGraphModel" "coming" "[D", Cond.fieldLink RX1 30 "StepGraphModel" "known" "[Z", Cond.fieldLink RX1 27 "StepGraphModel" "values" "[D", Cond.methodLink RX1 87 yX1_isBetter, Cond.instanceMethod yX1_isBetter, Cond.selects RX1 yX1_isBetter yX1_isBetter, Cond.initialized RX1, Cond.code yX1_isBetter cX1_isBetter 5 (some .boolean), Cond.fieldLink RX1 80 "StepGraphModel" "program" "I", Cond.methodLink RX1 95 yX1_sendAll, Cond.instanceMethod yX1_sendAll, Cond.selects RX1 yX1_sendAll yX1_sendAll, Cond.code yX1_sendAll cX1_sendAll 3 (some .int), Cond.fieldLink RX1 43 "StepGraphModel" "goes" "[Z", Cond.fieldLink RX1 68 "StepGraphModel" "edges" "I", Cond.fieldLink RX1 7 "StepGraphModel" "froms" "[I", Cond.fieldLink RX1 13 "StepGraphModel" "tos" "[I", Cond.fieldLink RX1 16 "StepGraphModel" "weights" "[D", Cond.fieldLink RX1 40 "StepGraphModel" "going" "[D", Cond.fieldLink RX1 24 "StepGraphModel" "k" "I", Cond.fieldLink RX1 65 "StepGraphModel" "crossed" "I"]
def wsX1_one_r2 : List Cond := [Cond.fieldLink RX1 62 "StepGraphModel" "delivered" "I", Cond.fieldLink RX1 56 "StepGraphModel" "steps" "I", Cond.methodLink RX1 91 yX1_send, Cond.instanceMethod yX1_send, Cond.selects RX1 yX1_send yX1_send, Cond.code yX1_send cX1_send 8 none, Cond.fieldLink RX1 59 "StepGraphModel" "sent" "I", Cond.methodLink RX1 83 yX1_message, Cond.instanceMethod yX1_message, Cond.selects RX1 yX1_message yX1_message, Cond.code yX1_message cX1_message 5 (some .double)]
def wsX1_one : List Cond := .code yX1_one cX1_one 7 (some .int) :: ((wsX1_one_r1 ++ wsX1_one_r2) ++ wsX10)
def wsX1_step_r1 : List Cond := [Cond.fieldLink RX1 52 "StepGraphModel" "begun" "Z", Cond.fieldLink RX1 49 "StepGraphModel" "thrown" "I", Cond.methodLink RX1 99 yX1_isAny, Cond.instanceMethod yX1_isAny, Cond.selects RX1 yX1_isAny yX1_isAny, Cond.initialized RX1, Cond.code yX1_isAny cX1_isAny 2 (some .boolean), Cond.fieldLink RX1 37 "StepGraphModel" "comes" "[Z", Cond.methodLink RX1 103 yX1_one, Cond.instanceMethod yX1_one, Cond.selects RX1 yX1_one yX1_one, Cond.code yX1_one cX1_one 7 (some .int), Cond.fieldLink RX1 20 "StepGraphModel" "n" "I", Cond.fieldLink RX1 46 "StepGraphModel" "speaks" "[Z", Cond.fieldLink RX1 34 "StepGraphModel" "coming" "[D", Cond.fieldLink RX1 30 "StepGraphModel" "known" "[Z", Cond.fieldLink RX1 27 "StepGraphModel" "values" "[D", Cond.methodLink RX1 87 yX1_isBetter, Cond.instanceMethod yX1_isBetter, Cond.selects RX1 yX1_isBetter yX1_isBetter, Cond.code yX1_isBetter cX1_isBetter 5 (some .boolean), Cond.fieldLink RX1 80 "StepGraphModel" "program" "I", Cond.methodLink RX1 95 yX1_sendAll, Cond.instanceMethod yX1_sendAll]
def wsX1_step_r2 : List Cond := [Cond.selects RX1 yX1_sendAll yX1_sendAll, Cond.code yX1_sendAll cX1_sendAll 3 (some .int), Cond.fieldLink RX1 43 "StepGraphModel" "goes" "[Z", Cond.fieldLink RX1 68 "StepGraphModel" "edges" "I", Cond.fieldLink RX1 7 "StepGraphModel" "froms" "[I", Cond.fieldLink RX1 13 "StepGraphModel" "tos" "[I", Cond.fieldLink RX1 16 "StepGraphModel" "weights" "[D", Cond.fieldLink RX1 40 "StepGraphModel" "going" "[D", Cond.fieldLink RX1 24 "StepGraphModel" "k" "I", Cond.fieldLink RX1 65 "StepGraphModel" "crossed" "I", Cond.fieldLink RX1 62 "StepGraphModel" "delivered" "I", Cond.fieldLink RX1 56 "StepGraphModel" "steps" "I", Cond.methodLink RX1 91 yX1_send, Cond.instanceMethod yX1_send, Cond.selects RX1 yX1_send yX1_send, Cond.code yX1_send cX1_send 8 none, Cond.fieldLink RX1 59 "StepGraphModel" "sent" "I", Cond.methodLink RX1 83 yX1_message, Cond.instanceMethod yX1_message, Cond.selects RX1 yX1_message yX1_message, Cond.code yX1_message cX1_message 5 (some .double)]
def wsX1_step : List Cond := .code yX1_step cX1_step 1 (some .int) :: ((wsX1_step_r1 ++ wsX1_step_r2) ++ wsX10)
def wsX1_finish_r1 : List Cond := [Cond.fieldLink RX1 52 "StepGraphModel" "begun" "Z", Cond.fieldLink RX1 49 "StepGraphModel" "thrown" "I", Cond.methodLink RX1 99 yX1_isAny, Cond.instanceMethod yX1_isAny, Cond.selects RX1 yX1_isAny yX1_isAny, Cond.initialized RX1, Cond.code yX1_isAny cX1_isAny 2 (some .boolean), Cond.fieldLink RX1 37 "StepGraphModel" "comes" "[Z", Cond.methodLink RX1 103 yX1_one, Cond.instanceMethod yX1_one, Cond.selects RX1 yX1_one yX1_one, Cond.code yX1_one cX1_one 7 (some .int), Cond.fieldLink RX1 20 "StepGraphModel" "n" "I", Cond.fieldLink RX1 46 "StepGraphModel" "speaks" "[Z", Cond.fieldLink RX1 34 "StepGraphModel" "coming" "[D", Cond.fieldLink RX1 30 "StepGraphModel" "known" "[Z", Cond.fieldLink RX1 27 "StepGraphModel" "values" "[D", Cond.methodLink RX1 87 yX1_isBetter, Cond.instanceMethod yX1_isBetter, Cond.selects RX1 yX1_isBetter yX1_isBetter, Cond.code yX1_isBetter cX1_isBetter 5 (some .boolean), Cond.fieldLink RX1 80 "StepGraphModel" "program" "I", Cond.methodLink RX1 95 yX1_sendAll, Cond.instanceMethod yX1_sendAll]
def wsX1_finish_r2 : List Cond := [Cond.selects RX1 yX1_sendAll yX1_sendAll, Cond.code yX1_sendAll cX1_sendAll 3 (some .int), Cond.fieldLink RX1 43 "StepGraphModel" "goes" "[Z", Cond.fieldLink RX1 68 "StepGraphModel" "edges" "I", Cond.fieldLink RX1 7 "StepGraphModel" "froms" "[I", Cond.fieldLink RX1 13 "StepGraphModel" "tos" "[I", Cond.fieldLink RX1 16 "StepGraphModel" "weights" "[D", Cond.fieldLink RX1 40 "StepGraphModel" "going" "[D", Cond.fieldLink RX1 24 "StepGraphModel" "k" "I", Cond.fieldLink RX1 65 "StepGraphModel" "crossed" "I", Cond.fieldLink RX1 62 "StepGraphModel" "delivered" "I", Cond.fieldLink RX1 56 "StepGraphModel" "steps" "I", Cond.methodLink RX1 91 yX1_send, Cond.instanceMethod yX1_send, Cond.selects RX1 yX1_send yX1_send, Cond.code yX1_send cX1_send 8 none, Cond.fieldLink RX1 59 "StepGraphModel" "sent" "I", Cond.methodLink RX1 83 yX1_message, Cond.instanceMethod yX1_message, Cond.selects RX1 yX1_message yX1_message, Cond.code yX1_message cX1_message 5 (some .double)]
def wsX1_finish : List Cond := .code yX1_finish cX1_finish 4 (some .int) :: ((wsX1_finish_r1 ++ wsX1_finish_r2) ++ wsX10)
def wsX1_over : List Cond := .code yX1_over cX1_over 1 (some .boolean) :: ([.fieldLink RX1 52 "StepGraphModel" "begun" "Z", .methodLink RX1 99 yX1_isAny, .instanceMethod yX1_isAny, .selects RX1 yX1_isAny yX1_isAny, .initialized RX1, .code yX1_isAny cX1_isAny 2 (some .boolean), .fieldLink RX1 37 "StepGraphModel" "comes" "[Z"] ++ wsX10)
def wsX1_value : List Cond := .code yX1_value cX1_value 2 (some .double) :: ([.fieldLink RX1 52 "StepGraphModel" "begun" "Z", .fieldLink RX1 30 "StepGraphModel" "known" "[Z", .fieldLink RX1 27 "StepGraphModel" "values" "[D", .constantDouble RX1 106 (13830554455654793216), .methodLink RX1 74 yX1_isVertex, .instanceMethod yX1_isVertex, .selects RX1 yX1_isVertex yX1_isVertex, .initialized RX1, .code yX1_isVertex cX1_isVertex 2 (some .boolean), .fieldLink RX1 20 "StepGraphModel" "n" "I"] ++ wsX10)
def wsX1_sum : List Cond := .code yX1_sum cX1_sum 4 (some .double) :: ([.fieldLink RX1 20 "StepGraphModel" "n" "I", .fieldLink RX1 52 "StepGraphModel" "begun" "Z", .fieldLink RX1 30 "StepGraphModel" "known" "[Z", .fieldLink RX1 27 "StepGraphModel" "values" "[D"] ++ wsX10)
def wsX1_steps : List Cond := .code yX1_steps cX1_steps 1 (some .int) :: ([.fieldLink RX1 56 "StepGraphModel" "steps" "I"] ++ wsX10)
def wsX1_sent : List Cond := .code yX1_sent cX1_sent 1 (some .int) :: ([.fieldLink RX1 59 "StepGraphModel" "sent" "I"] ++ wsX10)
def wsX1_delivered : List Cond := .code yX1_delivered cX1_delivered 1 (some .int) :: ([.fieldLink RX1 62 "StepGraphModel" "delivered" "I"] ++ wsX10)
def wsX1_crossed : List Cond := .code yX1_crossed cX1_crossed 1 (some .int) :: ([.fieldLink RX1 65 "StepGraphModel" "crossed" "I"] ++ wsX10)
def wsX1_pending : List Cond := .code yX1_pending cX1_pending 3 (some .double) :: ([.fieldLink RX1 24 "StepGraphModel" "k" "I", .fieldLink RX1 37 "StepGraphModel" "comes" "[Z", .fieldLink RX1 34 "StepGraphModel" "coming" "[D", .constantDouble RX1 106 (13830554455654793216), .methodLink RX1 74 yX1_isVertex, .instanceMethod yX1_isVertex, .selects RX1 yX1_isVertex yX1_isVertex, .initialized RX1, .code yX1_isVertex cX1_isVertex 2 (some .boolean), .fieldLink RX1 20 "StepGraphModel" "n" "I"] ++ wsX10)
def wsX1_degree : List Cond := .code yX1_degree cX1_degree 4 (some .int) :: ([.fieldLink RX1 68 "StepGraphModel" "edges" "I", .fieldLink RX1 7 "StepGraphModel" "froms" "[I", .fieldLink RX1 13 "StepGraphModel" "tos" "[I", .methodLink RX1 74 yX1_isVertex, .instanceMethod yX1_isVertex, .selects RX1 yX1_isVertex yX1_isVertex, .initialized RX1, .code yX1_isVertex cX1_isVertex 2 (some .boolean), .fieldLink RX1 20 "StepGraphModel" "n" "I"] ++ wsX10)
def wsL_begin_r1 : List Cond := [Cond.classLink RL 13 "java/lang/IllegalArgumentException", Cond.methodLink RL 7 yX0_begin, Cond.instanceMethod yX0_begin, Cond.selects RX0 yX0_begin yX0_begin, Cond.initialized RX0, Cond.code yX0_begin cX0_begin 4 (some .int), Cond.classLink RX0 75 "java/lang/IllegalArgumentException", Cond.initialized "java/lang/IllegalArgumentException", Cond.fieldLink RX0 42 "StepGraph" "running" "Z", Cond.fieldLink RX0 46 "StepGraph" "runProgram" "I", Cond.fieldLink RX0 20 "StepGraph" "vertexCount" "I", Cond.fieldLink RX0 30 "StepGraph" "values" "[D", Cond.fieldLink RX0 33 "StepGraph" "sends" "[Z", Cond.constantDouble RX0 88 (13830554455654793216), Cond.fieldLink RX0 49 "StepGraph" "waitingCount" "I", Cond.methodLink RX0 67 yX0_isVertex, Cond.instanceMethod yX0_isVertex, Cond.selects RX0 yX0_isVertex yX0_isVertex, Cond.code yX0_isVertex cX0_isVertex 2 (some .boolean), Cond.methodLink RX0 64 yX0_endRun, Cond.instanceMethod yX0_endRun, Cond.selects RX0 yX0_endRun yX0_endRun, Cond.code yX0_endRun cX0_endRun 1 none, Cond.fieldLink RX0 52 "StepGraph" "stepCount" "I"]
def wsL_begin_r2 : List Cond := [Cond.fieldLink RX0 55 "StepGraph" "sentCount" "I", Cond.fieldLink RX0 58 "StepGraph" "deliveredCount" "I", Cond.fieldLink RX0 61 "StepGraph" "crossedCount" "I", Cond.methodLink RX0 84 yX0_firstValue, Cond.instanceMethod yX0_firstValue, Cond.selects RX0 yX0_firstValue yX0_firstValue, Cond.code yX0_firstValue cX0_firstValue 3 (some .double), Cond.constantDouble RX0 107 (4696837146684686336), Cond.methodLink RX0 90 yX0_endStep, Cond.instanceMethod yX0_endStep, Cond.selects RX0 yX0_endStep yX0_endStep, Cond.code yX0_endStep cX0_endStep 2 none, Cond.fieldLink RX0 24 "StepGraph" "edgeCount" "I", Cond.fieldLink RX0 9 "StepGraph" "firstEnds" "[I", Cond.fieldLink RX0 13 "StepGraph" "secondEnds" "[I", Cond.fieldLink RX0 16 "StepGraph" "weights" "[D", Cond.methodLink RX0 117 yX0_clearWaiting, Cond.instanceMethod yX0_clearWaiting, Cond.selects RX0 yX0_clearWaiting yX0_clearWaiting, Cond.code yX0_clearWaiting cX0_clearWaiting 3 none, Cond.fieldLink RX0 27 "StepGraph" "partCount" "I", Cond.fieldLink RX0 39 "StepGraph" "waiting" "[[D", Cond.methodLink RX0 120 yX0_sendAlong, Cond.instanceMethod yX0_sendAlong]
def wsL_begin_r3 : List Cond := [Cond.selects RX0 yX0_sendAlong yX0_sendAlong, Cond.code yX0_sendAlong cX0_sendAlong 8 none, Cond.methodLink RX0 124 yX0_partOf, Cond.instanceMethod yX0_partOf, Cond.selects RX0 yX0_partOf yX0_partOf, Cond.code yX0_partOf cX0_partOf 2 (some .int), Cond.methodLink RX0 128 yX0_countDelivery, Cond.instanceMethod yX0_countDelivery, Cond.selects RX0 yX0_countDelivery yX0_countDelivery, Cond.code yX0_countDelivery cX0_countDelivery 3 none, Cond.methodLink RX0 132 yX0_messageOf, Cond.instanceMethod yX0_messageOf, Cond.selects RX0 yX0_messageOf yX0_messageOf, Cond.code yX0_messageOf cX0_messageOf 5 (some .double), Cond.methodLink RX0 113 yX0_isBetter, Cond.instanceMethod yX0_isBetter, Cond.selects RX0 yX0_isBetter yX0_isBetter, Cond.code yX0_isBetter cX0_isBetter 5 (some .boolean)]
def wsL_begin : List Cond := .codeWith yL_begin cL_begin 5 (some .int) [(0, 10, 13, 13)] :: ((wsL_begin_r1 ++ (wsL_begin_r2 ++ wsL_begin_r3)) ++ wsX00 ++ (vx_atS RX0 79 "java/lang/IllegalArgumentException" ["java/lang/RuntimeException", "java/lang/Exception"]).filter goodWord)
def wsL_step_r1 : List Cond := [Cond.classLink RL 19 "java/lang/IllegalStateException", Cond.methodLink RL 15 yX0_step, Cond.instanceMethod yX0_step, Cond.selects RX0 yX0_step yX0_step, Cond.initialized RX0, Cond.code yX0_step cX0_step 1 (some .int), Cond.classLink RX0 93 "java/lang/IllegalStateException", Cond.initialized "java/lang/IllegalStateException", Cond.fieldLink RX0 42 "StepGraph" "running" "Z", Cond.fieldLink RX0 49 "StepGraph" "waitingCount" "I", Cond.methodLink RX0 100 yX0_doStep, Cond.instanceMethod yX0_doStep, Cond.selects RX0 yX0_doStep yX0_doStep, Cond.code yX0_doStep cX0_doStep 5 (some .int), Cond.fieldLink RX0 20 "StepGraph" "vertexCount" "I", Cond.constantDouble RX0 88 (13830554455654793216), Cond.fieldLink RX0 33 "StepGraph" "sends" "[Z", Cond.fieldLink RX0 30 "StepGraph" "values" "[D", Cond.methodLink RX0 109 yX0_bestWaiting, Cond.instanceMethod yX0_bestWaiting, Cond.selects RX0 yX0_bestWaiting yX0_bestWaiting, Cond.code yX0_bestWaiting cX0_bestWaiting 5 (some .double), Cond.fieldLink RX0 27 "StepGraph" "partCount" "I", Cond.fieldLink RX0 39 "StepGraph" "waiting" "[[D"]
def wsL_step_r2 : List Cond := [Cond.methodLink RX0 113 yX0_isBetter, Cond.instanceMethod yX0_isBetter, Cond.selects RX0 yX0_isBetter yX0_isBetter, Cond.code yX0_isBetter cX0_isBetter 5 (some .boolean), Cond.fieldLink RX0 46 "StepGraph" "runProgram" "I", Cond.methodLink RX0 90 yX0_endStep, Cond.instanceMethod yX0_endStep, Cond.selects RX0 yX0_endStep yX0_endStep, Cond.code yX0_endStep cX0_endStep 2 none, Cond.fieldLink RX0 24 "StepGraph" "edgeCount" "I", Cond.fieldLink RX0 9 "StepGraph" "firstEnds" "[I", Cond.fieldLink RX0 13 "StepGraph" "secondEnds" "[I", Cond.fieldLink RX0 16 "StepGraph" "weights" "[D", Cond.fieldLink RX0 52 "StepGraph" "stepCount" "I", Cond.methodLink RX0 117 yX0_clearWaiting, Cond.instanceMethod yX0_clearWaiting, Cond.selects RX0 yX0_clearWaiting yX0_clearWaiting, Cond.code yX0_clearWaiting cX0_clearWaiting 3 none, Cond.methodLink RX0 120 yX0_sendAlong, Cond.instanceMethod yX0_sendAlong, Cond.selects RX0 yX0_sendAlong yX0_sendAlong, Cond.code yX0_sendAlong cX0_sendAlong 8 none, Cond.fieldLink RX0 55 "StepGraph" "sentCount" "I", Cond.methodLink RX0 124 yX0_partOf]
def wsL_step_r3 : List Cond := [Cond.instanceMethod yX0_partOf, Cond.selects RX0 yX0_partOf yX0_partOf, Cond.code yX0_partOf cX0_partOf 2 (some .int), Cond.methodLink RX0 128 yX0_countDelivery, Cond.instanceMethod yX0_countDelivery, Cond.selects RX0 yX0_countDelivery yX0_countDelivery, Cond.code yX0_countDelivery cX0_countDelivery 3 none, Cond.fieldLink RX0 58 "StepGraph" "deliveredCount" "I", Cond.fieldLink RX0 61 "StepGraph" "crossedCount" "I", Cond.methodLink RX0 132 yX0_messageOf, Cond.instanceMethod yX0_messageOf, Cond.selects RX0 yX0_messageOf yX0_messageOf, Cond.code yX0_messageOf cX0_messageOf 5 (some .double)]
def wsL_step : List Cond := .codeWith yL_step cL_step 3 (some .int) [(0, 8, 11, 19)] :: ((wsL_step_r1 ++ (wsL_step_r2 ++ wsL_step_r3)) ++ wsX00 ++ (vx_atS RX0 97 "java/lang/IllegalStateException" ["java/lang/RuntimeException", "java/lang/Exception"]).filter goodWord)
def wsL_finish_r1 : List Cond := [Cond.classLink RL 19 "java/lang/IllegalStateException", Cond.methodLink RL 21 yX0_finish, Cond.instanceMethod yX0_finish, Cond.selects RX0 yX0_finish yX0_finish, Cond.initialized RX0, Cond.code yX0_finish cX0_finish 3 (some .int), Cond.classLink RX0 93 "java/lang/IllegalStateException", Cond.initialized "java/lang/IllegalStateException", Cond.fieldLink RX0 42 "StepGraph" "running" "Z", Cond.fieldLink RX0 49 "StepGraph" "waitingCount" "I", Cond.methodLink RX0 100 yX0_doStep, Cond.instanceMethod yX0_doStep, Cond.selects RX0 yX0_doStep yX0_doStep, Cond.code yX0_doStep cX0_doStep 5 (some .int), Cond.fieldLink RX0 20 "StepGraph" "vertexCount" "I", Cond.constantDouble RX0 88 (13830554455654793216), Cond.fieldLink RX0 33 "StepGraph" "sends" "[Z", Cond.fieldLink RX0 30 "StepGraph" "values" "[D", Cond.methodLink RX0 109 yX0_bestWaiting, Cond.instanceMethod yX0_bestWaiting, Cond.selects RX0 yX0_bestWaiting yX0_bestWaiting, Cond.code yX0_bestWaiting cX0_bestWaiting 5 (some .double), Cond.fieldLink RX0 27 "StepGraph" "partCount" "I", Cond.fieldLink RX0 39 "StepGraph" "waiting" "[[D"]
def wsL_finish_r2 : List Cond := [Cond.methodLink RX0 113 yX0_isBetter, Cond.instanceMethod yX0_isBetter, Cond.selects RX0 yX0_isBetter yX0_isBetter, Cond.code yX0_isBetter cX0_isBetter 5 (some .boolean), Cond.fieldLink RX0 46 "StepGraph" "runProgram" "I", Cond.methodLink RX0 90 yX0_endStep, Cond.instanceMethod yX0_endStep, Cond.selects RX0 yX0_endStep yX0_endStep, Cond.code yX0_endStep cX0_endStep 2 none, Cond.fieldLink RX0 24 "StepGraph" "edgeCount" "I", Cond.fieldLink RX0 9 "StepGraph" "firstEnds" "[I", Cond.fieldLink RX0 13 "StepGraph" "secondEnds" "[I", Cond.fieldLink RX0 16 "StepGraph" "weights" "[D", Cond.fieldLink RX0 52 "StepGraph" "stepCount" "I", Cond.methodLink RX0 117 yX0_clearWaiting, Cond.instanceMethod yX0_clearWaiting, Cond.selects RX0 yX0_clearWaiting yX0_clearWaiting, Cond.code yX0_clearWaiting cX0_clearWaiting 3 none, Cond.methodLink RX0 120 yX0_sendAlong, Cond.instanceMethod yX0_sendAlong, Cond.selects RX0 yX0_sendAlong yX0_sendAlong, Cond.code yX0_sendAlong cX0_sendAlong 8 none, Cond.fieldLink RX0 55 "StepGraph" "sentCount" "I", Cond.methodLink RX0 124 yX0_partOf]
def wsL_finish_r3 : List Cond := [Cond.instanceMethod yX0_partOf, Cond.selects RX0 yX0_partOf yX0_partOf, Cond.code yX0_partOf cX0_partOf 2 (some .int), Cond.methodLink RX0 128 yX0_countDelivery, Cond.instanceMethod yX0_countDelivery, Cond.selects RX0 yX0_countDelivery yX0_countDelivery, Cond.code yX0_countDelivery cX0_countDelivery 3 none, Cond.fieldLink RX0 58 "StepGraph" "deliveredCount" "I", Cond.fieldLink RX0 61 "StepGraph" "crossedCount" "I", Cond.methodLink RX0 132 yX0_messageOf, Cond.instanceMethod yX0_messageOf, Cond.selects RX0 yX0_messageOf yX0_messageOf, Cond.code yX0_messageOf cX0_messageOf 5 (some .double)]
def wsL_finish : List Cond := .codeWith yL_finish cL_finish 4 (some .int) [(0, 9, 12, 19)] :: ((wsL_finish_r1 ++ (wsL_finish_r2 ++ wsL_finish_r3)) ++ wsX00 ++ (vx_atS RX0 97 "java/lang/IllegalStateException" ["java/lang/RuntimeException", "java/lang/Exception"]).filter goodWord)
def wsL_law0_r1 : List Cond := [Cond.classLink RL 8 RX0, Cond.instantiable RX0 16, Cond.initialized RX0, Cond.classLink RL 26 RX1, Cond.instantiable RX1 20, Cond.initialized RX1, Cond.arrayClass .long, Cond.constantDouble RL 34 (4593671619917905920), Cond.methodLink RL 25 yX0_init, Cond.instanceMethod yX0_init, Cond.code yX0_init cX0_init 1 none, Cond.methodLink RX0 1 objectInit, Cond.instanceMethod objectInit, Cond.code objectInit ⟨#[0xb1]⟩ 1 none, Cond.arrayClass .int, Cond.fieldLink RX0 9 "StepGraph" "firstEnds" "[I", Cond.fieldLink RX0 13 "StepGraph" "secondEnds" "[I", Cond.arrayClass .double, Cond.fieldLink RX0 16 "StepGraph" "weights" "[D", Cond.fieldLink RX0 20 "StepGraph" "vertexCount" "I", Cond.fieldLink RX0 24 "StepGraph" "edgeCount" "I", Cond.fieldLink RX0 27 "StepGraph" "partCount" "I", Cond.fieldLink RX0 30 "StepGraph" "values" "[D", Cond.arrayClass .boolean]
def wsL_law0_r2 : List Cond := [Cond.fieldLink RX0 33 "StepGraph" "sends" "[Z", Cond.classLink RX0 37 "[[D", Cond.fieldLink RX0 39 "StepGraph" "waiting" "[[D", Cond.fieldLink RX0 42 "StepGraph" "running" "Z", Cond.fieldLink RX0 46 "StepGraph" "runProgram" "I", Cond.fieldLink RX0 49 "StepGraph" "waitingCount" "I", Cond.fieldLink RX0 52 "StepGraph" "stepCount" "I", Cond.fieldLink RX0 55 "StepGraph" "sentCount" "I", Cond.fieldLink RX0 58 "StepGraph" "deliveredCount" "I", Cond.fieldLink RX0 61 "StepGraph" "crossedCount" "I", Cond.methodLink RL 28 yX1_init, Cond.instanceMethod yX1_init, Cond.code yX1_init cX1_init 1 none, Cond.methodLink RX1 1 objectInit, Cond.fieldLink RX1 7 "StepGraphModel" "froms" "[I", Cond.fieldLink RX1 13 "StepGraphModel" "tos" "[I", Cond.fieldLink RX1 16 "StepGraphModel" "weights" "[D", Cond.fieldLink RX1 20 "StepGraphModel" "n" "I", Cond.fieldLink RX1 24 "StepGraphModel" "k" "I", Cond.fieldLink RX1 27 "StepGraphModel" "values" "[D", Cond.fieldLink RX1 30 "StepGraphModel" "known" "[Z", Cond.fieldLink RX1 34 "StepGraphModel" "coming" "[D", Cond.fieldLink RX1 37 "StepGraphModel" "comes" "[Z", Cond.fieldLink RX1 40 "StepGraphModel" "going" "[D"]
def wsL_law0_r3 : List Cond := [Cond.fieldLink RX1 43 "StepGraphModel" "goes" "[Z", Cond.fieldLink RX1 46 "StepGraphModel" "speaks" "[Z", Cond.methodLink RL 29 yX0_size, Cond.instanceMethod yX0_size, Cond.selects RX0 yX0_size yX0_size, Cond.code yX0_size cX0_size 2 (some .boolean), Cond.methodLink RX0 64 yX0_endRun, Cond.instanceMethod yX0_endRun, Cond.selects RX0 yX0_endRun yX0_endRun, Cond.code yX0_endRun cX0_endRun 1 none, Cond.methodLink RL 33 yX1_size, Cond.instanceMethod yX1_size, Cond.selects RX1 yX1_size yX1_size, Cond.code yX1_size cX1_size 2 (some .boolean), Cond.fieldLink RX1 68 "StepGraphModel" "edges" "I", Cond.methodLink RX1 71 yX1_forget, Cond.instanceMethod yX1_forget, Cond.selects RX1 yX1_forget yX1_forget, Cond.code yX1_forget cX1_forget 2 none, Cond.fieldLink RX1 52 "StepGraphModel" "begun" "Z", Cond.fieldLink RX1 56 "StepGraphModel" "steps" "I", Cond.fieldLink RX1 59 "StepGraphModel" "sent" "I", Cond.fieldLink RX1 62 "StepGraphModel" "delivered" "I", Cond.fieldLink RX1 65 "StepGraphModel" "crossed" "I"]
def wsL_law0_r4 : List Cond := [Cond.methodLink RL 36 yX0_edge, Cond.instanceMethod yX0_edge, Cond.selects RX0 yX0_edge yX0_edge, Cond.code yX0_edge cX0_edge 5 (some .boolean), Cond.methodLink RX0 67 yX0_isVertex, Cond.instanceMethod yX0_isVertex, Cond.selects RX0 yX0_isVertex yX0_isVertex, Cond.code yX0_isVertex cX0_isVertex 2 (some .boolean), Cond.methodLink RX0 71 yX0_isWeight, Cond.static yX0_isWeight, Cond.code yX0_isWeight cX0_isWeight 2 (some .boolean), Cond.constantDouble RX0 107 (4696837146684686336), Cond.methodLink RL 40 yX1_edge, Cond.instanceMethod yX1_edge, Cond.selects RX1 yX1_edge yX1_edge, Cond.code yX1_edge cX1_edge 5 (some .boolean), Cond.constantDouble RX1 78 (4696837146684686336), Cond.methodLink RX1 74 yX1_isVertex, Cond.instanceMethod yX1_isVertex, Cond.selects RX1 yX1_isVertex yX1_isVertex, Cond.code yX1_isVertex cX1_isVertex 2 (some .boolean), Cond.methodLink RL 41 yX0_parts, Cond.instanceMethod yX0_parts, Cond.selects RX0 yX0_parts yX0_parts]
def wsL_law0_r5 : List Cond := [Cond.code yX0_parts cX0_parts 2 (some .boolean), Cond.methodLink RL 44 yX1_parts, Cond.instanceMethod yX1_parts, Cond.selects RX1 yX1_parts yX1_parts, Cond.code yX1_parts cX1_parts 2 (some .boolean), Cond.methodLink RL 45 yL_begin, Cond.static yL_begin, Cond.initialized RL, Cond.codeWith yL_begin cL_begin 5 (some .int) [(0, 10, 13, 13)], Cond.classLink RL 13 "java/lang/IllegalArgumentException", Cond.methodLink RL 7 yX0_begin, Cond.instanceMethod yX0_begin, Cond.selects RX0 yX0_begin yX0_begin, Cond.code yX0_begin cX0_begin 4 (some .int), Cond.classLink RX0 75 "java/lang/IllegalArgumentException", Cond.initialized "java/lang/IllegalArgumentException", Cond.constantDouble RX0 88 (13830554455654793216), Cond.methodLink RX0 84 yX0_firstValue, Cond.instanceMethod yX0_firstValue, Cond.selects RX0 yX0_firstValue yX0_firstValue, Cond.code yX0_firstValue cX0_firstValue 3 (some .double), Cond.methodLink RX0 90 yX0_endStep, Cond.instanceMethod yX0_endStep, Cond.selects RX0 yX0_endStep yX0_endStep]
def wsL_law0_r6 : List Cond := [Cond.code yX0_endStep cX0_endStep 2 none, Cond.methodLink RX0 117 yX0_clearWaiting, Cond.instanceMethod yX0_clearWaiting, Cond.selects RX0 yX0_clearWaiting yX0_clearWaiting, Cond.code yX0_clearWaiting cX0_clearWaiting 3 none, Cond.methodLink RX0 120 yX0_sendAlong, Cond.instanceMethod yX0_sendAlong, Cond.selects RX0 yX0_sendAlong yX0_sendAlong, Cond.code yX0_sendAlong cX0_sendAlong 8 none, Cond.methodLink RX0 124 yX0_partOf, Cond.instanceMethod yX0_partOf, Cond.selects RX0 yX0_partOf yX0_partOf, Cond.code yX0_partOf cX0_partOf 2 (some .int), Cond.methodLink RX0 128 yX0_countDelivery, Cond.instanceMethod yX0_countDelivery, Cond.selects RX0 yX0_countDelivery yX0_countDelivery, Cond.code yX0_countDelivery cX0_countDelivery 3 none, Cond.methodLink RX0 132 yX0_messageOf, Cond.instanceMethod yX0_messageOf, Cond.selects RX0 yX0_messageOf yX0_messageOf, Cond.code yX0_messageOf cX0_messageOf 5 (some .double), Cond.methodLink RX0 113 yX0_isBetter, Cond.instanceMethod yX0_isBetter, Cond.selects RX0 yX0_isBetter yX0_isBetter]
def wsL_law0_r7 : List Cond := [Cond.code yX0_isBetter cX0_isBetter 5 (some .boolean), Cond.methodLink RL 50 yX1_begin, Cond.instanceMethod yX1_begin, Cond.selects RX1 yX1_begin yX1_begin, Cond.code yX1_begin cX1_begin 4 (some .int), Cond.fieldLink RX1 49 "StepGraphModel" "thrown" "I", Cond.fieldLink RX1 80 "StepGraphModel" "program" "I", Cond.methodLink RX1 95 yX1_sendAll, Cond.instanceMethod yX1_sendAll, Cond.selects RX1 yX1_sendAll yX1_sendAll, Cond.code yX1_sendAll cX1_sendAll 3 (some .int), Cond.methodLink RX1 91 yX1_send, Cond.instanceMethod yX1_send, Cond.selects RX1 yX1_send yX1_send, Cond.code yX1_send cX1_send 8 none, Cond.methodLink RX1 83 yX1_message, Cond.instanceMethod yX1_message, Cond.selects RX1 yX1_message yX1_message, Cond.code yX1_message cX1_message 5 (some .double), Cond.methodLink RX1 87 yX1_isBetter, Cond.instanceMethod yX1_isBetter, Cond.selects RX1 yX1_isBetter yX1_isBetter, Cond.code yX1_isBetter cX1_isBetter 5 (some .boolean), Cond.methodLink RL 51 yX1_thrown]
def wsL_law0_r8 : List Cond := [Cond.instanceMethod yX1_thrown, Cond.selects RX1 yX1_thrown yX1_thrown, Cond.code yX1_thrown cX1_thrown 1 (some .int), Cond.methodLink RL 54 yL_step, Cond.static yL_step, Cond.codeWith yL_step cL_step 3 (some .int) [(0, 8, 11, 19)], Cond.classLink RL 19 "java/lang/IllegalStateException", Cond.methodLink RL 15 yX0_step, Cond.instanceMethod yX0_step, Cond.selects RX0 yX0_step yX0_step, Cond.code yX0_step cX0_step 1 (some .int), Cond.classLink RX0 93 "java/lang/IllegalStateException", Cond.initialized "java/lang/IllegalStateException", Cond.methodLink RX0 100 yX0_doStep, Cond.instanceMethod yX0_doStep, Cond.selects RX0 yX0_doStep yX0_doStep, Cond.code yX0_doStep cX0_doStep 5 (some .int), Cond.methodLink RX0 109 yX0_bestWaiting, Cond.instanceMethod yX0_bestWaiting, Cond.selects RX0 yX0_bestWaiting yX0_bestWaiting, Cond.code yX0_bestWaiting cX0_bestWaiting 5 (some .double), Cond.methodLink RL 57 yX1_step, Cond.instanceMethod yX1_step, Cond.selects RX1 yX1_step yX1_step]
def wsL_law0_r9 : List Cond := [Cond.code yX1_step cX1_step 1 (some .int), Cond.methodLink RX1 99 yX1_isAny, Cond.instanceMethod yX1_isAny, Cond.selects RX1 yX1_isAny yX1_isAny, Cond.code yX1_isAny cX1_isAny 2 (some .boolean), Cond.methodLink RX1 103 yX1_one, Cond.instanceMethod yX1_one, Cond.selects RX1 yX1_one yX1_one, Cond.code yX1_one cX1_one 7 (some .int), Cond.methodLink RL 58 yL_finish, Cond.static yL_finish, Cond.codeWith yL_finish cL_finish 4 (some .int) [(0, 9, 12, 19)], Cond.methodLink RL 21 yX0_finish, Cond.instanceMethod yX0_finish, Cond.selects RX0 yX0_finish yX0_finish, Cond.code yX0_finish cX0_finish 3 (some .int), Cond.methodLink RL 61 yX1_finish, Cond.instanceMethod yX1_finish, Cond.selects RX1 yX1_finish yX1_finish, Cond.code yX1_finish cX1_finish 4 (some .int), Cond.methodLink RL 62 yX0_over, Cond.instanceMethod yX0_over, Cond.selects RX0 yX0_over yX0_over, Cond.code yX0_over cX0_over 1 (some .boolean)]
def wsL_law0_r10 : List Cond := [Cond.methodLink RL 66 yX1_over, Cond.instanceMethod yX1_over, Cond.selects RX1 yX1_over yX1_over, Cond.code yX1_over cX1_over 1 (some .boolean), Cond.methodLink RL 67 yX0_value, Cond.instanceMethod yX0_value, Cond.selects RX0 yX0_value yX0_value, Cond.code yX0_value cX0_value 2 (some .double), Cond.methodLink RL 71 yX1_value, Cond.instanceMethod yX1_value, Cond.selects RX1 yX1_value yX1_value, Cond.code yX1_value cX1_value 2 (some .double), Cond.constantDouble RX1 106 (13830554455654793216), Cond.methodLink RL 72 yX0_sum, Cond.instanceMethod yX0_sum, Cond.selects RX0 yX0_sum yX0_sum, Cond.code yX0_sum cX0_sum 4 (some .double), Cond.methodLink RL 76 yX1_sum, Cond.instanceMethod yX1_sum, Cond.selects RX1 yX1_sum yX1_sum, Cond.code yX1_sum cX1_sum 4 (some .double), Cond.methodLink RL 77 yX0_steps, Cond.instanceMethod yX0_steps, Cond.selects RX0 yX0_steps yX0_steps]
def wsL_law0_r11 : List Cond := [Cond.code yX0_steps cX0_steps 1 (some .int), Cond.methodLink RL 80 yX1_steps, Cond.instanceMethod yX1_steps, Cond.selects RX1 yX1_steps yX1_steps, Cond.code yX1_steps cX1_steps 1 (some .int), Cond.methodLink RL 81 yX0_sent, Cond.instanceMethod yX0_sent, Cond.selects RX0 yX0_sent yX0_sent, Cond.code yX0_sent cX0_sent 1 (some .int), Cond.methodLink RL 84 yX1_sent, Cond.instanceMethod yX1_sent, Cond.selects RX1 yX1_sent yX1_sent, Cond.code yX1_sent cX1_sent 1 (some .int), Cond.methodLink RL 85 yX0_delivered, Cond.instanceMethod yX0_delivered, Cond.selects RX0 yX0_delivered yX0_delivered, Cond.code yX0_delivered cX0_delivered 1 (some .int), Cond.methodLink RL 88 yX1_delivered, Cond.instanceMethod yX1_delivered, Cond.selects RX1 yX1_delivered yX1_delivered, Cond.code yX1_delivered cX1_delivered 1 (some .int), Cond.methodLink RL 89 yX0_crossed, Cond.instanceMethod yX0_crossed, Cond.selects RX0 yX0_crossed yX0_crossed]
def wsL_law0_r12 : List Cond := [Cond.code yX0_crossed cX0_crossed 1 (some .int), Cond.methodLink RL 92 yX1_crossed, Cond.instanceMethod yX1_crossed, Cond.selects RX1 yX1_crossed yX1_crossed, Cond.code yX1_crossed cX1_crossed 1 (some .int), Cond.methodLink RL 93 yX0_pending, Cond.instanceMethod yX0_pending, Cond.selects RX0 yX0_pending yX0_pending, Cond.code yX0_pending cX0_pending 3 (some .double), Cond.methodLink RX0 104 yX0_isPart, Cond.instanceMethod yX0_isPart, Cond.selects RX0 yX0_isPart yX0_isPart, Cond.code yX0_isPart cX0_isPart 2 (some .boolean), Cond.methodLink RL 97 yX1_pending, Cond.instanceMethod yX1_pending, Cond.selects RX1 yX1_pending yX1_pending, Cond.code yX1_pending cX1_pending 3 (some .double), Cond.methodLink RL 98 yX0_degree, Cond.instanceMethod yX0_degree, Cond.selects RX0 yX0_degree yX0_degree, Cond.code yX0_degree cX0_degree 4 (some .int), Cond.methodLink RL 101 yX1_degree, Cond.instanceMethod yX1_degree, Cond.selects RX1 yX1_degree yX1_degree]
def wsL_law0_r13 : List Cond := [Cond.code yX1_degree cX1_degree 4 (some .int)]
def wsL_law0 : List Cond := (wsL_law0_r1 ++ (wsL_law0_r2 ++ (wsL_law0_r3 ++ (wsL_law0_r4 ++ (wsL_law0_r5 ++ (wsL_law0_r6 ++ (wsL_law0_r7 ++ (wsL_law0_r8 ++ (wsL_law0_r9 ++ (wsL_law0_r10 ++ (wsL_law0_r11 ++ (wsL_law0_r12 ++ wsL_law0_r13)))))))))))) ++ wsX00 ++ wsX10 ++ ([] : List Cond)
def wsL_law : List Cond := wsL_law0 ++ (vx_atS RX0 79 "java/lang/IllegalArgumentException" ["java/lang/RuntimeException", "java/lang/Exception"]).filter goodWord ++ (vx_atS RX0 97 "java/lang/IllegalStateException" ["java/lang/RuntimeException", "java/lang/Exception"]).filter goodWord
set_option maxRecDepth 20000 in
theorem wsL_law_in0 : ∀ w ∈ wsL_law0, w ∈ lw_tbl := fun w h => (goodIn_p wsL_law0 [34, 37, 309, 95, 99, 379, 383, 103, 107, 110, 387, 391, 115, 396, 164, 236, 240, 244, 248, 252, 256, 260, 264, 400, 404, 408, 412, 416, 375, 272, 293, 297, 420, 424, 428, 304, 432, 119, 436, 123, 440, 128, 445, 132, 449, 136, 453, 140, 457, 144, 461, 148, 152, 465, 156, 469] (by decide +kernel) (by decide +kernel) w h).1
theorem wsL_law_x0 : ∀ w ∈ (vx_atS RX0 79 "java/lang/IllegalArgumentException" ["java/lang/RuntimeException", "java/lang/Exception"]).filter goodWord, w ∈ lw_tbl := by decide +kernel
theorem wsL_law_x1 : ∀ w ∈ (vx_atS RX0 97 "java/lang/IllegalStateException" ["java/lang/RuntimeException", "java/lang/Exception"]).filter goodWord, w ∈ lw_tbl := by decide +kernel
theorem wsL_law_in : ∀ w ∈ wsL_law, w ∈ lw_tbl := fun w h => (List.mem_append.mp h).elim (fun h => (List.mem_append.mp h).elim (fun h => wsL_law_in0 w h) (fun h => wsL_law_x0 w h)) (fun h => wsL_law_x1 w h)
theorem inlX0 : ∀ w ∈ wsX00, w ∈ wsL_law := fun _ h => List.mem_append_left _ (List.mem_append_left _ (List.mem_append_left _ (List.mem_append_left _ (List.mem_append_right _ h))))
theorem inX0 : ∀ w ∈ wsX00, w ∈ lw_tbl := fun w h => wsL_law_in w (inlX0 w h)
theorem inlX1 : ∀ w ∈ wsX10, w ∈ wsL_law := fun _ h => List.mem_append_left _ (List.mem_append_left _ (List.mem_append_left _ (List.mem_append_right _ h)))
theorem inX1 : ∀ w ∈ wsX10, w ∈ lw_tbl := fun w h => wsL_law_in w (inlX1 w h)
theorem inJ0 : ∀ w ∈ wsJ00, w ∈ lw_tbl := by decide +kernel
abbrev vwCl : List vw_C := [(RX0, TX0, 16), (RX1, TX1, 20)]
end
section
theorem dX0_init_0 : decode cX0_init 0 = .ok (.aload_n 0, 1) := by decide +kernel
theorem dX0_init_1 : decode cX0_init 1 = .ok (.invokespecial 1, 3) := by decide +kernel
theorem dX0_init_4 : decode cX0_init 4 = .ok (.aload_n 0, 1) := by decide +kernel
theorem dX0_init_5 : decode cX0_init 5 = .ok (.bipush 30, 2) := by decide +kernel
theorem dX0_init_7 : decode cX0_init 7 = .ok (.newarray .int, 2) := by decide +kernel
theorem dX0_init_9 : decode cX0_init 9 = .ok (.putfield 9, 3) := by decide +kernel
theorem dX0_init_12 : decode cX0_init 12 = .ok (.aload_n 0, 1) := by decide +kernel
theorem dX0_init_13 : decode cX0_init 13 = .ok (.bipush 30, 2) := by decide +kernel
theorem dX0_init_15 : decode cX0_init 15 = .ok (.newarray .int, 2) := by decide +kernel
theorem dX0_init_17 : decode cX0_init 17 = .ok (.putfield 13, 3) := by decide +kernel
theorem dX0_init_20 : decode cX0_init 20 = .ok (.aload_n 0, 1) := by decide +kernel
theorem dX0_init_21 : decode cX0_init 21 = .ok (.bipush 30, 2) := by decide +kernel
theorem dX0_init_23 : decode cX0_init 23 = .ok (.newarray .double, 2) := by decide +kernel
theorem dX0_init_25 : decode cX0_init 25 = .ok (.putfield 16, 3) := by decide +kernel
theorem dX0_init_28 : decode cX0_init 28 = .ok (.aload_n 0, 1) := by decide +kernel
theorem dX0_init_29 : decode cX0_init 29 = .ok (.iconst 1, 1) := by decide +kernel
theorem dX0_init_30 : decode cX0_init 30 = .ok (.putfield 20, 3) := by decide +kernel
theorem dX0_init_33 : decode cX0_init 33 = .ok (.aload_n 0, 1) := by decide +kernel
theorem dX0_init_34 : decode cX0_init 34 = .ok (.iconst 0, 1) := by decide +kernel
theorem dX0_init_35 : decode cX0_init 35 = .ok (.putfield 24, 3) := by decide +kernel
theorem dX0_init_38 : decode cX0_init 38 = .ok (.aload_n 0, 1) := by decide +kernel
theorem dX0_init_39 : decode cX0_init 39 = .ok (.iconst 1, 1) := by decide +kernel
theorem dX0_init_40 : decode cX0_init 40 = .ok (.putfield 27, 3) := by decide +kernel
theorem dX0_init_43 : decode cX0_init 43 = .ok (.aload_n 0, 1) := by decide +kernel
theorem dX0_init_44 : decode cX0_init 44 = .ok (.bipush 12, 2) := by decide +kernel
theorem dX0_init_46 : decode cX0_init 46 = .ok (.newarray .double, 2) := by decide +kernel
theorem dX0_init_48 : decode cX0_init 48 = .ok (.putfield 30, 3) := by decide +kernel
theorem dX0_init_51 : decode cX0_init 51 = .ok (.aload_n 0, 1) := by decide +kernel
theorem dX0_init_52 : decode cX0_init 52 = .ok (.bipush 12, 2) := by decide +kernel
theorem dX0_init_54 : decode cX0_init 54 = .ok (.newarray .boolean, 2) := by decide +kernel
theorem dX0_init_56 : decode cX0_init 56 = .ok (.putfield 33, 3) := by decide +kernel
theorem dX0_init_59 : decode cX0_init 59 = .ok (.aload_n 0, 1) := by decide +kernel
theorem dX0_init_60 : decode cX0_init 60 = .ok (.bipush 12, 2) := by decide +kernel
theorem dX0_init_62 : decode cX0_init 62 = .ok (.iconst 4, 1) := by decide +kernel
theorem dX0_init_63 : decode cX0_init 63 = .ok (.multianewarray 37 2, 4) := by decide +kernel
theorem dX0_init_67 : decode cX0_init 67 = .ok (.putfield 39, 3) := by decide +kernel
theorem dX0_init_70 : decode cX0_init 70 = .ok (.aload_n 0, 1) := by decide +kernel
theorem dX0_init_71 : decode cX0_init 71 = .ok (.iconst 0, 1) := by decide +kernel
theorem dX0_init_72 : decode cX0_init 72 = .ok (.putfield 42, 3) := by decide +kernel
theorem dX0_init_75 : decode cX0_init 75 = .ok (.aload_n 0, 1) := by decide +kernel
theorem dX0_init_76 : decode cX0_init 76 = .ok (.iconst 0, 1) := by decide +kernel
theorem dX0_init_77 : decode cX0_init 77 = .ok (.putfield 46, 3) := by decide +kernel
theorem dX0_init_80 : decode cX0_init 80 = .ok (.aload_n 0, 1) := by decide +kernel
theorem dX0_init_81 : decode cX0_init 81 = .ok (.iconst 0, 1) := by decide +kernel
theorem dX0_init_82 : decode cX0_init 82 = .ok (.putfield 49, 3) := by decide +kernel
theorem dX0_init_85 : decode cX0_init 85 = .ok (.aload_n 0, 1) := by decide +kernel
theorem dX0_init_86 : decode cX0_init 86 = .ok (.iconst 0, 1) := by decide +kernel
theorem dX0_init_87 : decode cX0_init 87 = .ok (.putfield 52, 3) := by decide +kernel
theorem dX0_init_90 : decode cX0_init 90 = .ok (.aload_n 0, 1) := by decide +kernel
theorem dX0_init_91 : decode cX0_init 91 = .ok (.iconst 0, 1) := by decide +kernel
theorem dX0_init_92 : decode cX0_init 92 = .ok (.putfield 55, 3) := by decide +kernel
theorem dX0_init_95 : decode cX0_init 95 = .ok (.aload_n 0, 1) := by decide +kernel
theorem dX0_init_96 : decode cX0_init 96 = .ok (.iconst 0, 1) := by decide +kernel
theorem dX0_init_97 : decode cX0_init 97 = .ok (.putfield 58, 3) := by decide +kernel
theorem dX0_init_100 : decode cX0_init 100 = .ok (.aload_n 0, 1) := by decide +kernel
theorem dX0_init_101 : decode cX0_init 101 = .ok (.iconst 0, 1) := by decide +kernel
theorem dX0_init_102 : decode cX0_init 102 = .ok (.putfield 61, 3) := by decide +kernel
theorem dX0_init_105 : decode cX0_init 105 = .ok (.return_, 1) := by decide +kernel
set_option maxRecDepth 20000 in
theorem ggX0_size_X0_endRun : GoodIn wsX0_size wsX0_endRun := goodIn_r _ [7, 8, 9, 10, 11, 12, 13, 14, 15, 16, 17, 18, 19, 20, 21, 22, 23, 24, 25, 26, 27, 28, 29] (by decide +kernel) (by decide +kernel)
set_option maxRecDepth 20000 in
theorem gX0_size_X0_endRun : GoodIn wsX0_size (wsV RX0 64 RX0 yX0_endRun wsX0_endRun) := goodIn_app (goodIn_of _ (by decide +kernel)) ggX0_size_X0_endRun
theorem dX0_size_0 : decode cX0_size 0 = .ok (.iload_n 1, 1) := by decide +kernel
theorem dX0_size_1 : decode cX0_size 1 = .ok (.iconst 1, 1) := by decide +kernel
theorem dX0_size_2 : decode cX0_size 2 = .ok (.if_icmp .lt 9, 3) := by decide +kernel
theorem dX0_size_5 : decode cX0_size 5 = .ok (.iload_n 1, 1) := by decide +kernel
theorem dX0_size_6 : decode cX0_size 6 = .ok (.bipush 12, 2) := by decide +kernel
theorem dX0_size_8 : decode cX0_size 8 = .ok (.if_icmp .le 5, 3) := by decide +kernel
theorem dX0_size_11 : decode cX0_size 11 = .ok (.iconst 0, 1) := by decide +kernel
theorem dX0_size_12 : decode cX0_size 12 = .ok (.ireturn, 1) := by decide +kernel
theorem dX0_size_13 : decode cX0_size 13 = .ok (.aload_n 0, 1) := by decide +kernel
theorem dX0_size_14 : decode cX0_size 14 = .ok (.iload_n 1, 1) := by decide +kernel
theorem dX0_size_15 : decode cX0_size 15 = .ok (.putfield 20, 3) := by decide +kernel
theorem dX0_size_18 : decode cX0_size 18 = .ok (.aload_n 0, 1) := by decide +kernel
theorem dX0_size_19 : decode cX0_size 19 = .ok (.iconst 0, 1) := by decide +kernel
theorem dX0_size_20 : decode cX0_size 20 = .ok (.putfield 24, 3) := by decide +kernel
theorem dX0_size_23 : decode cX0_size 23 = .ok (.aload_n 0, 1) := by decide +kernel
theorem dX0_size_24 : decode cX0_size 24 = .ok (.invokevirtual 64, 3) := by decide +kernel
theorem dX0_size_27 : decode cX0_size 27 = .ok (.iconst 1, 1) := by decide +kernel
theorem dX0_size_28 : decode cX0_size 28 = .ok (.ireturn, 1) := by decide +kernel
set_option maxRecDepth 20000 in
theorem ggX0_edge_X0_isVertex : GoodIn wsX0_edge wsX0_isVertex := goodIn_r _ [9, 10, 25, 26, 27, 28, 29, 30, 31, 32, 33, 34, 35, 36, 37, 38, 39, 40] (by decide +kernel) (by decide +kernel)
set_option maxRecDepth 20000 in
theorem gX0_edge_X0_isVertex : GoodIn wsX0_edge (wsV RX0 67 RX0 yX0_isVertex wsX0_isVertex) := goodIn_app (goodIn_of _ (by decide +kernel)) ggX0_edge_X0_isVertex
set_option maxRecDepth 20000 in
theorem ggX0_edge_X0_isWeight : GoodIn wsX0_edge wsX0_isWeight := goodIn_r _ [13, 14] (by decide +kernel) (by decide +kernel)
set_option maxRecDepth 20000 in
theorem gX0_edge_X0_isWeight : GoodIn wsX0_edge (va_wsS RX0 71 yX0_isWeight wsX0_isWeight) := goodIn_app (goodIn_of _ (by decide +kernel)) ggX0_edge_X0_isWeight
set_option maxRecDepth 20000 in
theorem ggX0_edge_X0_endRun : GoodIn wsX0_edge wsX0_endRun := goodIn_r _ [18, 19, 20, 21, 22, 23, 24, 25, 26, 27, 28, 29, 30, 31, 32, 33, 34, 35, 36, 37, 38, 39, 40] (by decide +kernel) (by decide +kernel)
set_option maxRecDepth 20000 in
theorem gX0_edge_X0_endRun : GoodIn wsX0_edge (wsV RX0 64 RX0 yX0_endRun wsX0_endRun) := goodIn_app (goodIn_of _ (by decide +kernel)) ggX0_edge_X0_endRun
theorem dX0_edge_0 : decode cX0_edge 0 = .ok (.aload_n 0, 1) := by decide +kernel
theorem dX0_edge_1 : decode cX0_edge 1 = .ok (.iload_n 1, 1) := by decide +kernel
theorem dX0_edge_2 : decode cX0_edge 2 = .ok (.invokevirtual 67, 3) := by decide +kernel
theorem dX0_edge_5 : decode cX0_edge 5 = .ok (.ifCond .eq 32, 3) := by decide +kernel
theorem dX0_edge_8 : decode cX0_edge 8 = .ok (.aload_n 0, 1) := by decide +kernel
theorem dX0_edge_9 : decode cX0_edge 9 = .ok (.iload_n 2, 1) := by decide +kernel
theorem dX0_edge_10 : decode cX0_edge 10 = .ok (.invokevirtual 67, 3) := by decide +kernel
theorem dX0_edge_13 : decode cX0_edge 13 = .ok (.ifCond .eq 24, 3) := by decide +kernel
theorem dX0_edge_16 : decode cX0_edge 16 = .ok (.iload_n 1, 1) := by decide +kernel
theorem dX0_edge_17 : decode cX0_edge 17 = .ok (.iload_n 2, 1) := by decide +kernel
theorem dX0_edge_18 : decode cX0_edge 18 = .ok (.if_icmp .eq 19, 3) := by decide +kernel
theorem dX0_edge_21 : decode cX0_edge 21 = .ok (.dload_n 3, 1) := by decide +kernel
theorem dX0_edge_22 : decode cX0_edge 22 = .ok (.invokestatic 71, 3) := by decide +kernel
theorem dX0_edge_25 : decode cX0_edge 25 = .ok (.ifCond .eq 12, 3) := by decide +kernel
theorem dX0_edge_28 : decode cX0_edge 28 = .ok (.aload_n 0, 1) := by decide +kernel
theorem dX0_edge_29 : decode cX0_edge 29 = .ok (.getfield 24, 3) := by decide +kernel
theorem dX0_edge_32 : decode cX0_edge 32 = .ok (.bipush 30, 2) := by decide +kernel
theorem dX0_edge_34 : decode cX0_edge 34 = .ok (.if_icmp .lt 5, 3) := by decide +kernel
theorem dX0_edge_37 : decode cX0_edge 37 = .ok (.iconst 0, 1) := by decide +kernel
theorem dX0_edge_38 : decode cX0_edge 38 = .ok (.ireturn, 1) := by decide +kernel
theorem dX0_edge_39 : decode cX0_edge 39 = .ok (.aload_n 0, 1) := by decide +kernel
theorem dX0_edge_40 : decode cX0_edge 40 = .ok (.getfield 9, 3) := by decide +kernel
theorem dX0_edge_43 : decode cX0_edge 43 = .ok (.aload_n 0, 1) := by decide +kernel
theorem dX0_edge_44 : decode cX0_edge 44 = .ok (.getfield 24, 3) := by decide +kernel
theorem dX0_edge_47 : decode cX0_edge 47 = .ok (.iload_n 1, 1) := by decide +kernel
theorem dX0_edge_48 : decode cX0_edge 48 = .ok (.iastore, 1) := by decide +kernel
theorem dX0_edge_49 : decode cX0_edge 49 = .ok (.aload_n 0, 1) := by decide +kernel
theorem dX0_edge_50 : decode cX0_edge 50 = .ok (.getfield 13, 3) := by decide +kernel
theorem dX0_edge_53 : decode cX0_edge 53 = .ok (.aload_n 0, 1) := by decide +kernel
theorem dX0_edge_54 : decode cX0_edge 54 = .ok (.getfield 24, 3) := by decide +kernel
theorem dX0_edge_57 : decode cX0_edge 57 = .ok (.iload_n 2, 1) := by decide +kernel
theorem dX0_edge_58 : decode cX0_edge 58 = .ok (.iastore, 1) := by decide +kernel
theorem dX0_edge_59 : decode cX0_edge 59 = .ok (.aload_n 0, 1) := by decide +kernel
theorem dX0_edge_60 : decode cX0_edge 60 = .ok (.getfield 16, 3) := by decide +kernel
theorem dX0_edge_63 : decode cX0_edge 63 = .ok (.aload_n 0, 1) := by decide +kernel
theorem dX0_edge_64 : decode cX0_edge 64 = .ok (.getfield 24, 3) := by decide +kernel
theorem dX0_edge_67 : decode cX0_edge 67 = .ok (.dload_n 3, 1) := by decide +kernel
theorem dX0_edge_68 : decode cX0_edge 68 = .ok (.dconst 0, 1) := by decide +kernel
theorem dX0_edge_69 : decode cX0_edge 69 = .ok (.dcmp .l, 1) := by decide +kernel
theorem dX0_edge_70 : decode cX0_edge 70 = .ok (.ifCond .le 7, 3) := by decide +kernel
theorem dX0_edge_73 : decode cX0_edge 73 = .ok (.dload_n 3, 1) := by decide +kernel
theorem dX0_edge_74 : decode cX0_edge 74 = .ok (.goto 4, 3) := by decide +kernel
theorem dX0_edge_77 : decode cX0_edge 77 = .ok (.dconst 0, 1) := by decide +kernel
theorem dX0_edge_78 : decode cX0_edge 78 = .ok (.dastore, 1) := by decide +kernel
theorem dX0_edge_79 : decode cX0_edge 79 = .ok (.aload_n 0, 1) := by decide +kernel
theorem dX0_edge_80 : decode cX0_edge 80 = .ok (.dup, 1) := by decide +kernel
theorem dX0_edge_81 : decode cX0_edge 81 = .ok (.getfield 24, 3) := by decide +kernel
theorem dX0_edge_84 : decode cX0_edge 84 = .ok (.iconst 1, 1) := by decide +kernel
theorem dX0_edge_85 : decode cX0_edge 85 = .ok (.iadd, 1) := by decide +kernel
theorem dX0_edge_86 : decode cX0_edge 86 = .ok (.putfield 24, 3) := by decide +kernel
theorem dX0_edge_89 : decode cX0_edge 89 = .ok (.aload_n 0, 1) := by decide +kernel
theorem dX0_edge_90 : decode cX0_edge 90 = .ok (.invokevirtual 64, 3) := by decide +kernel
theorem dX0_edge_93 : decode cX0_edge 93 = .ok (.iconst 1, 1) := by decide +kernel
theorem dX0_edge_94 : decode cX0_edge 94 = .ok (.ireturn, 1) := by decide +kernel
set_option maxRecDepth 20000 in
theorem ggX0_parts_X0_endRun : GoodIn wsX0_parts wsX0_endRun := goodIn_r _ [6, 7, 8, 9, 10, 11, 12, 13, 14, 15, 16, 17, 18, 19, 20, 21, 22, 23, 24, 25, 26, 27, 28] (by decide +kernel) (by decide +kernel)
set_option maxRecDepth 20000 in
theorem gX0_parts_X0_endRun : GoodIn wsX0_parts (wsV RX0 64 RX0 yX0_endRun wsX0_endRun) := goodIn_app (goodIn_of _ (by decide +kernel)) ggX0_parts_X0_endRun
theorem dX0_parts_0 : decode cX0_parts 0 = .ok (.iload_n 1, 1) := by decide +kernel
theorem dX0_parts_1 : decode cX0_parts 1 = .ok (.iconst 1, 1) := by decide +kernel
theorem dX0_parts_2 : decode cX0_parts 2 = .ok (.if_icmp .lt 8, 3) := by decide +kernel
theorem dX0_parts_5 : decode cX0_parts 5 = .ok (.iload_n 1, 1) := by decide +kernel
theorem dX0_parts_6 : decode cX0_parts 6 = .ok (.iconst 4, 1) := by decide +kernel
theorem dX0_parts_7 : decode cX0_parts 7 = .ok (.if_icmp .le 5, 3) := by decide +kernel
theorem dX0_parts_10 : decode cX0_parts 10 = .ok (.iconst 0, 1) := by decide +kernel
theorem dX0_parts_11 : decode cX0_parts 11 = .ok (.ireturn, 1) := by decide +kernel
theorem dX0_parts_12 : decode cX0_parts 12 = .ok (.aload_n 0, 1) := by decide +kernel
theorem dX0_parts_13 : decode cX0_parts 13 = .ok (.iload_n 1, 1) := by decide +kernel
theorem dX0_parts_14 : decode cX0_parts 14 = .ok (.putfield 27, 3) := by decide +kernel
theorem dX0_parts_17 : decode cX0_parts 17 = .ok (.aload_n 0, 1) := by decide +kernel
theorem dX0_parts_18 : decode cX0_parts 18 = .ok (.invokevirtual 64, 3) := by decide +kernel
theorem dX0_parts_21 : decode cX0_parts 21 = .ok (.iconst 1, 1) := by decide +kernel
theorem dX0_parts_22 : decode cX0_parts 22 = .ok (.ireturn, 1) := by decide +kernel
set_option maxRecDepth 20000 in
theorem ggX0_begin_X0_isVertex : GoodIn wsX0_begin wsX0_isVertex := goodIn_r _ [14, 5, 62, 63, 64, 65, 66, 67, 68, 69, 70, 71, 72, 73, 74, 75, 76, 77] (by decide +kernel) (by decide +kernel)
set_option maxRecDepth 20000 in
theorem gX0_begin_X0_isVertex : GoodIn wsX0_begin (wsV RX0 67 RX0 yX0_isVertex wsX0_isVertex) := goodIn_app (goodIn_of _ (by decide +kernel)) ggX0_begin_X0_isVertex
set_option maxRecDepth 20000 in
theorem ggX0_begin_X0_endRun : GoodIn wsX0_begin wsX0_endRun := goodIn_r _ [18, 3, 9, 19, 20, 21, 22, 62, 63, 64, 65, 66, 67, 68, 69, 70, 71, 72, 73, 74, 75, 76, 77] (by decide +kernel) (by decide +kernel)
set_option maxRecDepth 20000 in
theorem gX0_begin_X0_endRun : GoodIn wsX0_begin (wsV RX0 64 RX0 yX0_endRun wsX0_endRun) := goodIn_app (goodIn_of _ (by decide +kernel)) ggX0_begin_X0_endRun
set_option maxRecDepth 20000 in
theorem ggX0_begin_X0_firstValue : GoodIn wsX0_begin wsX0_firstValue := goodIn_r _ [26, 4, 8, 27, 62, 63, 64, 65, 66, 67, 68, 69, 70, 71, 72, 73, 74, 75, 76, 77] (by decide +kernel) (by decide +kernel)
set_option maxRecDepth 20000 in
theorem gX0_begin_X0_firstValue : GoodIn wsX0_begin (wsV RX0 84 RX0 yX0_firstValue wsX0_firstValue) := goodIn_app (goodIn_of _ (by decide +kernel)) ggX0_begin_X0_firstValue
set_option maxRecDepth 20000 in
theorem ggX0_begin_X0_endStep : GoodIn wsX0_begin wsX0_endStep := goodIn_r _ [31, 32, 33, 34, 35, 19, 36, 37, 38, 13, 39, 5, 40, 41, 8, 9, 42, 43, 44, 45, 7, 20, 6, 46, 47, 48, 49, 50, 51, 52, 53, 21, 22, 54, 55, 56, 57, 4, 58, 59, 60, 61, 62, 63, 64, 65, 66, 67, 68, 69, 70, 71, 72, 73, 74, 75, 76, 77] (by decide +kernel) (by decide +kernel)
set_option maxRecDepth 20000 in
theorem gX0_begin_X0_endStep : GoodIn wsX0_begin (wsV RX0 90 RX0 yX0_endStep wsX0_endStep) := goodIn_app (goodIn_of _ (by decide +kernel)) ggX0_begin_X0_endStep
theorem dX0_begin_0 : decode cX0_begin 0 = .ok (.iload_n 1, 1) := by decide +kernel
theorem dX0_begin_1 : decode cX0_begin 1 = .ok (.ifCond .lt 8, 3) := by decide +kernel
theorem dX0_begin_4 : decode cX0_begin 4 = .ok (.iload_n 1, 1) := by decide +kernel
theorem dX0_begin_5 : decode cX0_begin 5 = .ok (.iconst 3, 1) := by decide +kernel
theorem dX0_begin_6 : decode cX0_begin 6 = .ok (.if_icmp .le 13, 3) := by decide +kernel
theorem dX0_begin_9 : decode cX0_begin 9 = .ok (.new 75, 3) := by decide +kernel
theorem dX0_begin_12 : decode cX0_begin 12 = .ok (.dup, 1) := by decide +kernel
theorem dX0_begin_13 : decode cX0_begin 13 = .ok (.ldc 77, 2) := by decide +kernel
theorem dX0_begin_15 : decode cX0_begin 15 = .ok (.invokespecial 79, 3) := by decide +kernel
theorem dX0_begin_18 : decode cX0_begin 18 = .ok (.athrow, 1) := by decide +kernel
theorem dX0_begin_19 : decode cX0_begin 19 = .ok (.aload_n 0, 1) := by decide +kernel
theorem dX0_begin_20 : decode cX0_begin 20 = .ok (.iload_n 2, 1) := by decide +kernel
theorem dX0_begin_21 : decode cX0_begin 21 = .ok (.invokevirtual 67, 3) := by decide +kernel
theorem dX0_begin_24 : decode cX0_begin 24 = .ok (.ifCond .ne 13, 3) := by decide +kernel
theorem dX0_begin_27 : decode cX0_begin 27 = .ok (.new 75, 3) := by decide +kernel
theorem dX0_begin_30 : decode cX0_begin 30 = .ok (.dup, 1) := by decide +kernel
theorem dX0_begin_31 : decode cX0_begin 31 = .ok (.ldc 82, 2) := by decide +kernel
theorem dX0_begin_33 : decode cX0_begin 33 = .ok (.invokespecial 79, 3) := by decide +kernel
theorem dX0_begin_36 : decode cX0_begin 36 = .ok (.athrow, 1) := by decide +kernel
theorem dX0_begin_37 : decode cX0_begin 37 = .ok (.aload_n 0, 1) := by decide +kernel
theorem dX0_begin_38 : decode cX0_begin 38 = .ok (.invokevirtual 64, 3) := by decide +kernel
theorem dX0_begin_41 : decode cX0_begin 41 = .ok (.aload_n 0, 1) := by decide +kernel
theorem dX0_begin_42 : decode cX0_begin 42 = .ok (.iconst 1, 1) := by decide +kernel
theorem dX0_begin_43 : decode cX0_begin 43 = .ok (.putfield 42, 3) := by decide +kernel
theorem dX0_begin_46 : decode cX0_begin 46 = .ok (.aload_n 0, 1) := by decide +kernel
theorem dX0_begin_47 : decode cX0_begin 47 = .ok (.iload_n 1, 1) := by decide +kernel
theorem dX0_begin_48 : decode cX0_begin 48 = .ok (.putfield 46, 3) := by decide +kernel
theorem dX0_begin_51 : decode cX0_begin 51 = .ok (.iconst 0, 1) := by decide +kernel
theorem dX0_begin_52 : decode cX0_begin 52 = .ok (.istore_n 3, 1) := by decide +kernel
theorem dX0_begin_53 : decode cX0_begin 53 = .ok (.iload_n 3, 1) := by decide +kernel
theorem dX0_begin_54 : decode cX0_begin 54 = .ok (.aload_n 0, 1) := by decide +kernel
theorem dX0_begin_55 : decode cX0_begin 55 = .ok (.getfield 20, 3) := by decide +kernel
theorem dX0_begin_58 : decode cX0_begin 58 = .ok (.if_icmp .ge 45, 3) := by decide +kernel
theorem dX0_begin_61 : decode cX0_begin 61 = .ok (.aload_n 0, 1) := by decide +kernel
theorem dX0_begin_62 : decode cX0_begin 62 = .ok (.getfield 30, 3) := by decide +kernel
theorem dX0_begin_65 : decode cX0_begin 65 = .ok (.iload_n 3, 1) := by decide +kernel
theorem dX0_begin_66 : decode cX0_begin 66 = .ok (.aload_n 0, 1) := by decide +kernel
theorem dX0_begin_67 : decode cX0_begin 67 = .ok (.iload_n 3, 1) := by decide +kernel
theorem dX0_begin_68 : decode cX0_begin 68 = .ok (.iload_n 2, 1) := by decide +kernel
theorem dX0_begin_69 : decode cX0_begin 69 = .ok (.invokevirtual 84, 3) := by decide +kernel
theorem dX0_begin_72 : decode cX0_begin 72 = .ok (.dastore, 1) := by decide +kernel
theorem dX0_begin_73 : decode cX0_begin 73 = .ok (.aload_n 0, 1) := by decide +kernel
theorem dX0_begin_74 : decode cX0_begin 74 = .ok (.getfield 33, 3) := by decide +kernel
theorem dX0_begin_77 : decode cX0_begin 77 = .ok (.iload_n 3, 1) := by decide +kernel
theorem dX0_begin_78 : decode cX0_begin 78 = .ok (.aload_n 0, 1) := by decide +kernel
theorem dX0_begin_79 : decode cX0_begin 79 = .ok (.getfield 30, 3) := by decide +kernel
theorem dX0_begin_82 : decode cX0_begin 82 = .ok (.iload_n 3, 1) := by decide +kernel
theorem dX0_begin_83 : decode cX0_begin 83 = .ok (.daload, 1) := by decide +kernel
theorem dX0_begin_84 : decode cX0_begin 84 = .ok (.ldc2_w 88, 3) := by decide +kernel
theorem dX0_begin_87 : decode cX0_begin 87 = .ok (.dcmp .l, 1) := by decide +kernel
theorem dX0_begin_88 : decode cX0_begin 88 = .ok (.ifCond .eq 7, 3) := by decide +kernel
theorem dX0_begin_91 : decode cX0_begin 91 = .ok (.iconst 1, 1) := by decide +kernel
theorem dX0_begin_92 : decode cX0_begin 92 = .ok (.goto 4, 3) := by decide +kernel
theorem dX0_begin_95 : decode cX0_begin 95 = .ok (.iconst 0, 1) := by decide +kernel
theorem dX0_begin_96 : decode cX0_begin 96 = .ok (.bastore, 1) := by decide +kernel
theorem dX0_begin_97 : decode cX0_begin 97 = .ok (.iinc 3 1, 3) := by decide +kernel
theorem dX0_begin_100 : decode cX0_begin 100 = .ok (.goto (-47), 3) := by decide +kernel
theorem dX0_begin_103 : decode cX0_begin 103 = .ok (.aload_n 0, 1) := by decide +kernel
theorem dX0_begin_104 : decode cX0_begin 104 = .ok (.invokevirtual 90, 3) := by decide +kernel
theorem dX0_begin_107 : decode cX0_begin 107 = .ok (.aload_n 0, 1) := by decide +kernel
theorem dX0_begin_108 : decode cX0_begin 108 = .ok (.getfield 49, 3) := by decide +kernel
theorem dX0_begin_111 : decode cX0_begin 111 = .ok (.ireturn, 1) := by decide +kernel
set_option maxRecDepth 20000 in
theorem ggX0_step_X0_doStep : GoodIn wsX0_step wsX0_doStep := goodIn_r _ [9, 10, 11, 12, 13, 14, 15, 16, 8, 17, 18, 19, 20, 21, 22, 23, 24, 25, 26, 27, 28, 29, 30, 31, 32, 33, 34, 35, 36, 37, 4, 38, 39, 40, 41, 42, 43, 44, 45, 46, 47, 48, 49, 50, 51, 52, 53, 54, 55, 56, 57, 58, 59, 60, 61, 62, 63, 64, 65, 66, 67, 68, 69, 70, 71, 72] (by decide +kernel) (by decide +kernel)
set_option maxRecDepth 20000 in
theorem gX0_step_X0_doStep : GoodIn wsX0_step (wsV RX0 100 RX0 yX0_doStep wsX0_doStep) := goodIn_app (goodIn_of _ (by decide +kernel)) ggX0_step_X0_doStep
theorem dX0_step_0 : decode cX0_step 0 = .ok (.aload_n 0, 1) := by decide +kernel
theorem dX0_step_1 : decode cX0_step 1 = .ok (.getfield 42, 3) := by decide +kernel
theorem dX0_step_4 : decode cX0_step 4 = .ok (.ifCond .ne 13, 3) := by decide +kernel
theorem dX0_step_7 : decode cX0_step 7 = .ok (.new 93, 3) := by decide +kernel
theorem dX0_step_10 : decode cX0_step 10 = .ok (.dup, 1) := by decide +kernel
theorem dX0_step_11 : decode cX0_step 11 = .ok (.ldc 95, 2) := by decide +kernel
theorem dX0_step_13 : decode cX0_step 13 = .ok (.invokespecial 97, 3) := by decide +kernel
theorem dX0_step_16 : decode cX0_step 16 = .ok (.athrow, 1) := by decide +kernel
theorem dX0_step_17 : decode cX0_step 17 = .ok (.aload_n 0, 1) := by decide +kernel
theorem dX0_step_18 : decode cX0_step 18 = .ok (.getfield 49, 3) := by decide +kernel
theorem dX0_step_21 : decode cX0_step 21 = .ok (.ifCond .ne 13, 3) := by decide +kernel
theorem dX0_step_24 : decode cX0_step 24 = .ok (.new 93, 3) := by decide +kernel
theorem dX0_step_27 : decode cX0_step 27 = .ok (.dup, 1) := by decide +kernel
theorem dX0_step_28 : decode cX0_step 28 = .ok (.ldc 98, 2) := by decide +kernel
theorem dX0_step_30 : decode cX0_step 30 = .ok (.invokespecial 97, 3) := by decide +kernel
theorem dX0_step_33 : decode cX0_step 33 = .ok (.athrow, 1) := by decide +kernel
theorem dX0_step_34 : decode cX0_step 34 = .ok (.aload_n 0, 1) := by decide +kernel
theorem dX0_step_35 : decode cX0_step 35 = .ok (.invokevirtual 100, 3) := by decide +kernel
theorem dX0_step_38 : decode cX0_step 38 = .ok (.ireturn, 1) := by decide +kernel
set_option maxRecDepth 20000 in
theorem ggX0_finish_X0_doStep : GoodIn wsX0_finish wsX0_doStep := goodIn_r _ [9, 10, 11, 12, 13, 14, 15, 16, 8, 17, 18, 19, 20, 21, 22, 23, 24, 25, 26, 27, 28, 29, 30, 31, 32, 33, 34, 35, 36, 37, 4, 38, 39, 40, 41, 42, 43, 44, 45, 46, 47, 48, 49, 50, 51, 52, 53, 54, 55, 56, 57, 58, 59, 60, 61, 62, 63, 64, 65, 66, 67, 68, 69, 70, 71, 72] (by decide +kernel) (by decide +kernel)
set_option maxRecDepth 20000 in
theorem gX0_finish_X0_doStep : GoodIn wsX0_finish (wsV RX0 100 RX0 yX0_doStep wsX0_doStep) := goodIn_app (goodIn_of _ (by decide +kernel)) ggX0_finish_X0_doStep
theorem dX0_finish_0 : decode cX0_finish 0 = .ok (.aload_n 0, 1) := by decide +kernel
theorem dX0_finish_1 : decode cX0_finish 1 = .ok (.getfield 42, 3) := by decide +kernel
theorem dX0_finish_4 : decode cX0_finish 4 = .ok (.ifCond .ne 13, 3) := by decide +kernel
theorem dX0_finish_7 : decode cX0_finish 7 = .ok (.new 93, 3) := by decide +kernel
theorem dX0_finish_10 : decode cX0_finish 10 = .ok (.dup, 1) := by decide +kernel
theorem dX0_finish_11 : decode cX0_finish 11 = .ok (.ldc 95, 2) := by decide +kernel
theorem dX0_finish_13 : decode cX0_finish 13 = .ok (.invokespecial 97, 3) := by decide +kernel
theorem dX0_finish_16 : decode cX0_finish 16 = .ok (.athrow, 1) := by decide +kernel
theorem dX0_finish_17 : decode cX0_finish 17 = .ok (.iconst 0, 1) := by decide +kernel
theorem dX0_finish_18 : decode cX0_finish 18 = .ok (.istore_n 2, 1) := by decide +kernel
theorem dX0_finish_19 : decode cX0_finish 19 = .ok (.iload_n 2, 1) := by decide +kernel
theorem dX0_finish_20 : decode cX0_finish 20 = .ok (.iload_n 1, 1) := by decide +kernel
theorem dX0_finish_21 : decode cX0_finish 21 = .ok (.if_icmp .ge 21, 3) := by decide +kernel
theorem dX0_finish_24 : decode cX0_finish 24 = .ok (.aload_n 0, 1) := by decide +kernel
theorem dX0_finish_25 : decode cX0_finish 25 = .ok (.getfield 49, 3) := by decide +kernel
theorem dX0_finish_28 : decode cX0_finish 28 = .ok (.ifCond .le 14, 3) := by decide +kernel
theorem dX0_finish_31 : decode cX0_finish 31 = .ok (.aload_n 0, 1) := by decide +kernel
theorem dX0_finish_32 : decode cX0_finish 32 = .ok (.invokevirtual 100, 3) := by decide +kernel
theorem dX0_finish_35 : decode cX0_finish 35 = .ok (.pop, 1) := by decide +kernel
theorem dX0_finish_36 : decode cX0_finish 36 = .ok (.iinc 2 1, 3) := by decide +kernel
theorem dX0_finish_39 : decode cX0_finish 39 = .ok (.goto (-20), 3) := by decide +kernel
theorem dX0_finish_42 : decode cX0_finish 42 = .ok (.iload_n 2, 1) := by decide +kernel
theorem dX0_finish_43 : decode cX0_finish 43 = .ok (.ireturn, 1) := by decide +kernel
theorem dX0_over_0 : decode cX0_over 0 = .ok (.aload_n 0, 1) := by decide +kernel
theorem dX0_over_1 : decode cX0_over 1 = .ok (.getfield 42, 3) := by decide +kernel
theorem dX0_over_4 : decode cX0_over 4 = .ok (.ifCond .eq 14, 3) := by decide +kernel
theorem dX0_over_7 : decode cX0_over 7 = .ok (.aload_n 0, 1) := by decide +kernel
theorem dX0_over_8 : decode cX0_over 8 = .ok (.getfield 49, 3) := by decide +kernel
theorem dX0_over_11 : decode cX0_over 11 = .ok (.ifCond .ne 7, 3) := by decide +kernel
theorem dX0_over_14 : decode cX0_over 14 = .ok (.iconst 1, 1) := by decide +kernel
theorem dX0_over_15 : decode cX0_over 15 = .ok (.goto 4, 3) := by decide +kernel
theorem dX0_over_18 : decode cX0_over 18 = .ok (.iconst 0, 1) := by decide +kernel
theorem dX0_over_19 : decode cX0_over 19 = .ok (.ireturn, 1) := by decide +kernel
set_option maxRecDepth 20000 in
theorem ggX0_value_X0_isVertex : GoodIn wsX0_value wsX0_isVertex := goodIn_r _ [8, 9, 10, 11, 12, 13, 14, 15, 16, 17, 18, 19, 20, 21, 22, 23, 24, 25] (by decide +kernel) (by decide +kernel)
set_option maxRecDepth 20000 in
theorem gX0_value_X0_isVertex : GoodIn wsX0_value (wsV RX0 67 RX0 yX0_isVertex wsX0_isVertex) := goodIn_app (goodIn_of _ (by decide +kernel)) ggX0_value_X0_isVertex
theorem dX0_value_0 : decode cX0_value 0 = .ok (.aload_n 0, 1) := by decide +kernel
theorem dX0_value_1 : decode cX0_value 1 = .ok (.getfield 42, 3) := by decide +kernel
theorem dX0_value_4 : decode cX0_value 4 = .ok (.ifCond .eq 20, 3) := by decide +kernel
theorem dX0_value_7 : decode cX0_value 7 = .ok (.aload_n 0, 1) := by decide +kernel
theorem dX0_value_8 : decode cX0_value 8 = .ok (.iload_n 1, 1) := by decide +kernel
theorem dX0_value_9 : decode cX0_value 9 = .ok (.invokevirtual 67, 3) := by decide +kernel
theorem dX0_value_12 : decode cX0_value 12 = .ok (.ifCond .eq 12, 3) := by decide +kernel
theorem dX0_value_15 : decode cX0_value 15 = .ok (.aload_n 0, 1) := by decide +kernel
theorem dX0_value_16 : decode cX0_value 16 = .ok (.getfield 30, 3) := by decide +kernel
theorem dX0_value_19 : decode cX0_value 19 = .ok (.iload_n 1, 1) := by decide +kernel
theorem dX0_value_20 : decode cX0_value 20 = .ok (.daload, 1) := by decide +kernel
theorem dX0_value_21 : decode cX0_value 21 = .ok (.goto 6, 3) := by decide +kernel
theorem dX0_value_24 : decode cX0_value 24 = .ok (.ldc2_w 88, 3) := by decide +kernel
theorem dX0_value_27 : decode cX0_value 27 = .ok (.dreturn, 1) := by decide +kernel
theorem dX0_sum_0 : decode cX0_sum 0 = .ok (.dconst 0, 1) := by decide +kernel
theorem dX0_sum_1 : decode cX0_sum 1 = .ok (.dstore_n 1, 1) := by decide +kernel
theorem dX0_sum_2 : decode cX0_sum 2 = .ok (.aload_n 0, 1) := by decide +kernel
theorem dX0_sum_3 : decode cX0_sum 3 = .ok (.getfield 42, 3) := by decide +kernel
theorem dX0_sum_6 : decode cX0_sum 6 = .ok (.ifCond .eq 41, 3) := by decide +kernel
theorem dX0_sum_9 : decode cX0_sum 9 = .ok (.iconst 0, 1) := by decide +kernel
theorem dX0_sum_10 : decode cX0_sum 10 = .ok (.istore_n 3, 1) := by decide +kernel
theorem dX0_sum_11 : decode cX0_sum 11 = .ok (.iload_n 3, 1) := by decide +kernel
theorem dX0_sum_12 : decode cX0_sum 12 = .ok (.aload_n 0, 1) := by decide +kernel
theorem dX0_sum_13 : decode cX0_sum 13 = .ok (.getfield 20, 3) := by decide +kernel
theorem dX0_sum_16 : decode cX0_sum 16 = .ok (.if_icmp .ge 31, 3) := by decide +kernel
theorem dX0_sum_19 : decode cX0_sum 19 = .ok (.aload_n 0, 1) := by decide +kernel
theorem dX0_sum_20 : decode cX0_sum 20 = .ok (.getfield 30, 3) := by decide +kernel
theorem dX0_sum_23 : decode cX0_sum 23 = .ok (.iload_n 3, 1) := by decide +kernel
theorem dX0_sum_24 : decode cX0_sum 24 = .ok (.daload, 1) := by decide +kernel
theorem dX0_sum_25 : decode cX0_sum 25 = .ok (.ldc2_w 88, 3) := by decide +kernel
theorem dX0_sum_28 : decode cX0_sum 28 = .ok (.dcmp .l, 1) := by decide +kernel
theorem dX0_sum_29 : decode cX0_sum 29 = .ok (.ifCond .eq 12, 3) := by decide +kernel
theorem dX0_sum_32 : decode cX0_sum 32 = .ok (.dload_n 1, 1) := by decide +kernel
theorem dX0_sum_33 : decode cX0_sum 33 = .ok (.aload_n 0, 1) := by decide +kernel
theorem dX0_sum_34 : decode cX0_sum 34 = .ok (.getfield 30, 3) := by decide +kernel
theorem dX0_sum_37 : decode cX0_sum 37 = .ok (.iload_n 3, 1) := by decide +kernel
theorem dX0_sum_38 : decode cX0_sum 38 = .ok (.daload, 1) := by decide +kernel
theorem dX0_sum_39 : decode cX0_sum 39 = .ok (.dadd, 1) := by decide +kernel
theorem dX0_sum_40 : decode cX0_sum 40 = .ok (.dstore_n 1, 1) := by decide +kernel
theorem dX0_sum_41 : decode cX0_sum 41 = .ok (.iinc 3 1, 3) := by decide +kernel
theorem dX0_sum_44 : decode cX0_sum 44 = .ok (.goto (-33), 3) := by decide +kernel
theorem dX0_sum_47 : decode cX0_sum 47 = .ok (.dload_n 1, 1) := by decide +kernel
theorem dX0_sum_48 : decode cX0_sum 48 = .ok (.dreturn, 1) := by decide +kernel
theorem dX0_steps_0 : decode cX0_steps 0 = .ok (.aload_n 0, 1) := by decide +kernel
theorem dX0_steps_1 : decode cX0_steps 1 = .ok (.getfield 52, 3) := by decide +kernel
theorem dX0_steps_4 : decode cX0_steps 4 = .ok (.ireturn, 1) := by decide +kernel
theorem dX0_sent_0 : decode cX0_sent 0 = .ok (.aload_n 0, 1) := by decide +kernel
theorem dX0_sent_1 : decode cX0_sent 1 = .ok (.getfield 55, 3) := by decide +kernel
theorem dX0_sent_4 : decode cX0_sent 4 = .ok (.ireturn, 1) := by decide +kernel
theorem dX0_delivered_0 : decode cX0_delivered 0 = .ok (.aload_n 0, 1) := by decide +kernel
theorem dX0_delivered_1 : decode cX0_delivered 1 = .ok (.getfield 58, 3) := by decide +kernel
theorem dX0_delivered_4 : decode cX0_delivered 4 = .ok (.ireturn, 1) := by decide +kernel
theorem dX0_crossed_0 : decode cX0_crossed 0 = .ok (.aload_n 0, 1) := by decide +kernel
theorem dX0_crossed_1 : decode cX0_crossed 1 = .ok (.getfield 61, 3) := by decide +kernel
theorem dX0_crossed_4 : decode cX0_crossed 4 = .ok (.ireturn, 1) := by decide +kernel
set_option maxRecDepth 20000 in
theorem ggX0_pending_X0_isVertex : GoodIn wsX0_pending wsX0_isVertex := goodIn_r _ [8, 9, 15, 16, 17, 18, 19, 20, 21, 22, 23, 24, 25, 26, 27, 28, 29, 30] (by decide +kernel) (by decide +kernel)
set_option maxRecDepth 20000 in
theorem gX0_pending_X0_isVertex : GoodIn wsX0_pending (wsV RX0 67 RX0 yX0_isVertex wsX0_isVertex) := goodIn_app (goodIn_of _ (by decide +kernel)) ggX0_pending_X0_isVertex
set_option maxRecDepth 20000 in
theorem ggX0_pending_X0_isPart : GoodIn wsX0_pending wsX0_isPart := goodIn_r _ [13, 14, 15, 16, 17, 18, 19, 20, 21, 22, 23, 24, 25, 26, 27, 28, 29, 30] (by decide +kernel) (by decide +kernel)
set_option maxRecDepth 20000 in
theorem gX0_pending_X0_isPart : GoodIn wsX0_pending (wsV RX0 104 RX0 yX0_isPart wsX0_isPart) := goodIn_app (goodIn_of _ (by decide +kernel)) ggX0_pending_X0_isPart
theorem dX0_pending_0 : decode cX0_pending 0 = .ok (.aload_n 0, 1) := by decide +kernel
theorem dX0_pending_1 : decode cX0_pending 1 = .ok (.getfield 42, 3) := by decide +kernel
theorem dX0_pending_4 : decode cX0_pending 4 = .ok (.ifCond .eq 30, 3) := by decide +kernel
theorem dX0_pending_7 : decode cX0_pending 7 = .ok (.aload_n 0, 1) := by decide +kernel
theorem dX0_pending_8 : decode cX0_pending 8 = .ok (.iload_n 1, 1) := by decide +kernel
theorem dX0_pending_9 : decode cX0_pending 9 = .ok (.invokevirtual 67, 3) := by decide +kernel
theorem dX0_pending_12 : decode cX0_pending 12 = .ok (.ifCond .eq 22, 3) := by decide +kernel
theorem dX0_pending_15 : decode cX0_pending 15 = .ok (.aload_n 0, 1) := by decide +kernel
theorem dX0_pending_16 : decode cX0_pending 16 = .ok (.iload_n 2, 1) := by decide +kernel
theorem dX0_pending_17 : decode cX0_pending 17 = .ok (.invokevirtual 104, 3) := by decide +kernel
theorem dX0_pending_20 : decode cX0_pending 20 = .ok (.ifCond .eq 14, 3) := by decide +kernel
theorem dX0_pending_23 : decode cX0_pending 23 = .ok (.aload_n 0, 1) := by decide +kernel
theorem dX0_pending_24 : decode cX0_pending 24 = .ok (.getfield 39, 3) := by decide +kernel
theorem dX0_pending_27 : decode cX0_pending 27 = .ok (.iload_n 1, 1) := by decide +kernel
theorem dX0_pending_28 : decode cX0_pending 28 = .ok (.aaload, 1) := by decide +kernel
theorem dX0_pending_29 : decode cX0_pending 29 = .ok (.iload_n 2, 1) := by decide +kernel
theorem dX0_pending_30 : decode cX0_pending 30 = .ok (.daload, 1) := by decide +kernel
theorem dX0_pending_31 : decode cX0_pending 31 = .ok (.goto 6, 3) := by decide +kernel
theorem dX0_pending_34 : decode cX0_pending 34 = .ok (.ldc2_w 88, 3) := by decide +kernel
theorem dX0_pending_37 : decode cX0_pending 37 = .ok (.dreturn, 1) := by decide +kernel
set_option maxRecDepth 20000 in
theorem ggX0_degree_X0_isVertex : GoodIn wsX0_degree wsX0_isVertex := goodIn_r _ [8, 9, 10, 11, 12, 13, 14, 15, 16, 17, 18, 19, 20, 21, 22, 23, 24, 25] (by decide +kernel) (by decide +kernel)
set_option maxRecDepth 20000 in
theorem gX0_degree_X0_isVertex : GoodIn wsX0_degree (wsV RX0 67 RX0 yX0_isVertex wsX0_isVertex) := goodIn_app (goodIn_of _ (by decide +kernel)) ggX0_degree_X0_isVertex
theorem dX0_degree_0 : decode cX0_degree 0 = .ok (.aload_n 0, 1) := by decide +kernel
theorem dX0_degree_1 : decode cX0_degree 1 = .ok (.iload_n 1, 1) := by decide +kernel
theorem dX0_degree_2 : decode cX0_degree 2 = .ok (.invokevirtual 67, 3) := by decide +kernel
theorem dX0_degree_5 : decode cX0_degree 5 = .ok (.ifCond .ne 5, 3) := by decide +kernel
theorem dX0_degree_8 : decode cX0_degree 8 = .ok (.iconst (-1), 1) := by decide +kernel
theorem dX0_degree_9 : decode cX0_degree 9 = .ok (.ireturn, 1) := by decide +kernel
theorem dX0_degree_10 : decode cX0_degree 10 = .ok (.iconst 0, 1) := by decide +kernel
theorem dX0_degree_11 : decode cX0_degree 11 = .ok (.istore_n 2, 1) := by decide +kernel
theorem dX0_degree_12 : decode cX0_degree 12 = .ok (.iconst 0, 1) := by decide +kernel
theorem dX0_degree_13 : decode cX0_degree 13 = .ok (.istore_n 3, 1) := by decide +kernel
theorem dX0_degree_14 : decode cX0_degree 14 = .ok (.iload_n 3, 1) := by decide +kernel
theorem dX0_degree_15 : decode cX0_degree 15 = .ok (.aload_n 0, 1) := by decide +kernel
theorem dX0_degree_16 : decode cX0_degree 16 = .ok (.getfield 24, 3) := by decide +kernel
theorem dX0_degree_19 : decode cX0_degree 19 = .ok (.if_icmp .ge 32, 3) := by decide +kernel
theorem dX0_degree_22 : decode cX0_degree 22 = .ok (.aload_n 0, 1) := by decide +kernel
theorem dX0_degree_23 : decode cX0_degree 23 = .ok (.getfield 9, 3) := by decide +kernel
theorem dX0_degree_26 : decode cX0_degree 26 = .ok (.iload_n 3, 1) := by decide +kernel
theorem dX0_degree_27 : decode cX0_degree 27 = .ok (.iaload, 1) := by decide +kernel
theorem dX0_degree_28 : decode cX0_degree 28 = .ok (.iload_n 1, 1) := by decide +kernel
theorem dX0_degree_29 : decode cX0_degree 29 = .ok (.if_icmp .eq 13, 3) := by decide +kernel
theorem dX0_degree_32 : decode cX0_degree 32 = .ok (.aload_n 0, 1) := by decide +kernel
theorem dX0_degree_33 : decode cX0_degree 33 = .ok (.getfield 13, 3) := by decide +kernel
theorem dX0_degree_36 : decode cX0_degree 36 = .ok (.iload_n 3, 1) := by decide +kernel
theorem dX0_degree_37 : decode cX0_degree 37 = .ok (.iaload, 1) := by decide +kernel
theorem dX0_degree_38 : decode cX0_degree 38 = .ok (.iload_n 1, 1) := by decide +kernel
theorem dX0_degree_39 : decode cX0_degree 39 = .ok (.if_icmp .ne 6, 3) := by decide +kernel
theorem dX0_degree_42 : decode cX0_degree 42 = .ok (.iinc 2 1, 3) := by decide +kernel
theorem dX0_degree_45 : decode cX0_degree 45 = .ok (.iinc 3 1, 3) := by decide +kernel
theorem dX0_degree_48 : decode cX0_degree 48 = .ok (.goto (-34), 3) := by decide +kernel
theorem dX0_degree_51 : decode cX0_degree 51 = .ok (.iload_n 2, 1) := by decide +kernel
theorem dX0_degree_52 : decode cX0_degree 52 = .ok (.ireturn, 1) := by decide +kernel
theorem dX0_isVertex_0 : decode cX0_isVertex 0 = .ok (.iload_n 1, 1) := by decide +kernel
theorem dX0_isVertex_1 : decode cX0_isVertex 1 = .ok (.ifCond .lt 15, 3) := by decide +kernel
theorem dX0_isVertex_4 : decode cX0_isVertex 4 = .ok (.iload_n 1, 1) := by decide +kernel
theorem dX0_isVertex_5 : decode cX0_isVertex 5 = .ok (.aload_n 0, 1) := by decide +kernel
theorem dX0_isVertex_6 : decode cX0_isVertex 6 = .ok (.getfield 20, 3) := by decide +kernel
theorem dX0_isVertex_9 : decode cX0_isVertex 9 = .ok (.if_icmp .ge 7, 3) := by decide +kernel
theorem dX0_isVertex_12 : decode cX0_isVertex 12 = .ok (.iconst 1, 1) := by decide +kernel
theorem dX0_isVertex_13 : decode cX0_isVertex 13 = .ok (.goto 4, 3) := by decide +kernel
theorem dX0_isVertex_16 : decode cX0_isVertex 16 = .ok (.iconst 0, 1) := by decide +kernel
theorem dX0_isVertex_17 : decode cX0_isVertex 17 = .ok (.ireturn, 1) := by decide +kernel
theorem dX0_isPart_0 : decode cX0_isPart 0 = .ok (.iload_n 1, 1) := by decide +kernel
theorem dX0_isPart_1 : decode cX0_isPart 1 = .ok (.ifCond .lt 15, 3) := by decide +kernel
theorem dX0_isPart_4 : decode cX0_isPart 4 = .ok (.iload_n 1, 1) := by decide +kernel
theorem dX0_isPart_5 : decode cX0_isPart 5 = .ok (.aload_n 0, 1) := by decide +kernel
theorem dX0_isPart_6 : decode cX0_isPart 6 = .ok (.getfield 27, 3) := by decide +kernel
theorem dX0_isPart_9 : decode cX0_isPart 9 = .ok (.if_icmp .ge 7, 3) := by decide +kernel
theorem dX0_isPart_12 : decode cX0_isPart 12 = .ok (.iconst 1, 1) := by decide +kernel
theorem dX0_isPart_13 : decode cX0_isPart 13 = .ok (.goto 4, 3) := by decide +kernel
theorem dX0_isPart_16 : decode cX0_isPart 16 = .ok (.iconst 0, 1) := by decide +kernel
theorem dX0_isPart_17 : decode cX0_isPart 17 = .ok (.ireturn, 1) := by decide +kernel
theorem dX0_isWeight_0 : decode cX0_isWeight 0 = .ok (.dload_n 0, 1) := by decide +kernel
theorem dX0_isWeight_1 : decode cX0_isWeight 1 = .ok (.dconst 0, 1) := by decide +kernel
theorem dX0_isWeight_2 : decode cX0_isWeight 2 = .ok (.dcmp .l, 1) := by decide +kernel
theorem dX0_isWeight_3 : decode cX0_isWeight 3 = .ok (.ifCond .lt 15, 3) := by decide +kernel
theorem dX0_isWeight_6 : decode cX0_isWeight 6 = .ok (.dload_n 0, 1) := by decide +kernel
theorem dX0_isWeight_7 : decode cX0_isWeight 7 = .ok (.ldc2_w 107, 3) := by decide +kernel
theorem dX0_isWeight_10 : decode cX0_isWeight 10 = .ok (.dcmp .g, 1) := by decide +kernel
theorem dX0_isWeight_11 : decode cX0_isWeight 11 = .ok (.ifCond .gt 7, 3) := by decide +kernel
theorem dX0_isWeight_14 : decode cX0_isWeight 14 = .ok (.iconst 1, 1) := by decide +kernel
theorem dX0_isWeight_15 : decode cX0_isWeight 15 = .ok (.goto 4, 3) := by decide +kernel
theorem dX0_isWeight_18 : decode cX0_isWeight 18 = .ok (.iconst 0, 1) := by decide +kernel
theorem dX0_isWeight_19 : decode cX0_isWeight 19 = .ok (.ireturn, 1) := by decide +kernel
theorem dX0_partOf_0 : decode cX0_partOf 0 = .ok (.iload_n 1, 1) := by decide +kernel
theorem dX0_partOf_1 : decode cX0_partOf 1 = .ok (.aload_n 0, 1) := by decide +kernel
theorem dX0_partOf_2 : decode cX0_partOf 2 = .ok (.getfield 27, 3) := by decide +kernel
theorem dX0_partOf_5 : decode cX0_partOf 5 = .ok (.irem, 1) := by decide +kernel
theorem dX0_partOf_6 : decode cX0_partOf 6 = .ok (.ireturn, 1) := by decide +kernel
theorem dX0_endRun_0 : decode cX0_endRun 0 = .ok (.aload_n 0, 1) := by decide +kernel
theorem dX0_endRun_1 : decode cX0_endRun 1 = .ok (.iconst 0, 1) := by decide +kernel
theorem dX0_endRun_2 : decode cX0_endRun 2 = .ok (.putfield 42, 3) := by decide +kernel
theorem dX0_endRun_5 : decode cX0_endRun 5 = .ok (.aload_n 0, 1) := by decide +kernel
theorem dX0_endRun_6 : decode cX0_endRun 6 = .ok (.iconst 0, 1) := by decide +kernel
theorem dX0_endRun_7 : decode cX0_endRun 7 = .ok (.putfield 49, 3) := by decide +kernel
theorem dX0_endRun_10 : decode cX0_endRun 10 = .ok (.aload_n 0, 1) := by decide +kernel
theorem dX0_endRun_11 : decode cX0_endRun 11 = .ok (.iconst 0, 1) := by decide +kernel
theorem dX0_endRun_12 : decode cX0_endRun 12 = .ok (.putfield 52, 3) := by decide +kernel
theorem dX0_endRun_15 : decode cX0_endRun 15 = .ok (.aload_n 0, 1) := by decide +kernel
theorem dX0_endRun_16 : decode cX0_endRun 16 = .ok (.iconst 0, 1) := by decide +kernel
theorem dX0_endRun_17 : decode cX0_endRun 17 = .ok (.putfield 55, 3) := by decide +kernel
theorem dX0_endRun_20 : decode cX0_endRun 20 = .ok (.aload_n 0, 1) := by decide +kernel
theorem dX0_endRun_21 : decode cX0_endRun 21 = .ok (.iconst 0, 1) := by decide +kernel
theorem dX0_endRun_22 : decode cX0_endRun 22 = .ok (.putfield 58, 3) := by decide +kernel
theorem dX0_endRun_25 : decode cX0_endRun 25 = .ok (.aload_n 0, 1) := by decide +kernel
theorem dX0_endRun_26 : decode cX0_endRun 26 = .ok (.iconst 0, 1) := by decide +kernel
theorem dX0_endRun_27 : decode cX0_endRun 27 = .ok (.putfield 61, 3) := by decide +kernel
theorem dX0_endRun_30 : decode cX0_endRun 30 = .ok (.return_, 1) := by decide +kernel
theorem dX0_firstValue_0 : decode cX0_firstValue 0 = .ok (.aload_n 0, 1) := by decide +kernel
theorem dX0_firstValue_1 : decode cX0_firstValue 1 = .ok (.getfield 46, 3) := by decide +kernel
theorem dX0_firstValue_4 : decode cX0_firstValue 4 = .ok (.iconst 1, 1) := by decide +kernel
theorem dX0_firstValue_5 : decode cX0_firstValue 5 = .ok (.if_icmp .ne 6, 3) := by decide +kernel
theorem dX0_firstValue_8 : decode cX0_firstValue 8 = .ok (.iload_n 1, 1) := by decide +kernel
theorem dX0_firstValue_9 : decode cX0_firstValue 9 = .ok (.i2d, 1) := by decide +kernel
theorem dX0_firstValue_10 : decode cX0_firstValue 10 = .ok (.dreturn, 1) := by decide +kernel
theorem dX0_firstValue_11 : decode cX0_firstValue 11 = .ok (.iload_n 1, 1) := by decide +kernel
theorem dX0_firstValue_12 : decode cX0_firstValue 12 = .ok (.iload_n 2, 1) := by decide +kernel
theorem dX0_firstValue_13 : decode cX0_firstValue 13 = .ok (.if_icmp .eq 7, 3) := by decide +kernel
theorem dX0_firstValue_16 : decode cX0_firstValue 16 = .ok (.ldc2_w 88, 3) := by decide +kernel
theorem dX0_firstValue_19 : decode cX0_firstValue 19 = .ok (.dreturn, 1) := by decide +kernel
theorem dX0_firstValue_20 : decode cX0_firstValue 20 = .ok (.aload_n 0, 1) := by decide +kernel
theorem dX0_firstValue_21 : decode cX0_firstValue 21 = .ok (.getfield 46, 3) := by decide +kernel
theorem dX0_firstValue_24 : decode cX0_firstValue 24 = .ok (.iconst 3, 1) := by decide +kernel
theorem dX0_firstValue_25 : decode cX0_firstValue 25 = .ok (.if_icmp .ne 9, 3) := by decide +kernel
theorem dX0_firstValue_28 : decode cX0_firstValue 28 = .ok (.ldc2_w 107, 3) := by decide +kernel
theorem dX0_firstValue_31 : decode cX0_firstValue 31 = .ok (.goto 4, 3) := by decide +kernel
theorem dX0_firstValue_34 : decode cX0_firstValue 34 = .ok (.dconst 0, 1) := by decide +kernel
theorem dX0_firstValue_35 : decode cX0_firstValue 35 = .ok (.dreturn, 1) := by decide +kernel
theorem dX0_messageOf_0 : decode cX0_messageOf 0 = .ok (.aload_n 0, 1) := by decide +kernel
theorem dX0_messageOf_1 : decode cX0_messageOf 1 = .ok (.getfield 46, 3) := by decide +kernel
theorem dX0_messageOf_4 : decode cX0_messageOf 4 = .ok (.ifCond .ne 7, 3) := by decide +kernel
theorem dX0_messageOf_7 : decode cX0_messageOf 7 = .ok (.dload_n 1, 1) := by decide +kernel
theorem dX0_messageOf_8 : decode cX0_messageOf 8 = .ok (.dload_n 3, 1) := by decide +kernel
theorem dX0_messageOf_9 : decode cX0_messageOf 9 = .ok (.dadd, 1) := by decide +kernel
theorem dX0_messageOf_10 : decode cX0_messageOf 10 = .ok (.dreturn, 1) := by decide +kernel
theorem dX0_messageOf_11 : decode cX0_messageOf 11 = .ok (.aload_n 0, 1) := by decide +kernel
theorem dX0_messageOf_12 : decode cX0_messageOf 12 = .ok (.getfield 46, 3) := by decide +kernel
theorem dX0_messageOf_15 : decode cX0_messageOf 15 = .ok (.iconst 1, 1) := by decide +kernel
theorem dX0_messageOf_16 : decode cX0_messageOf 16 = .ok (.if_icmp .ne 5, 3) := by decide +kernel
theorem dX0_messageOf_19 : decode cX0_messageOf 19 = .ok (.dload_n 1, 1) := by decide +kernel
theorem dX0_messageOf_20 : decode cX0_messageOf 20 = .ok (.dreturn, 1) := by decide +kernel
theorem dX0_messageOf_21 : decode cX0_messageOf 21 = .ok (.aload_n 0, 1) := by decide +kernel
theorem dX0_messageOf_22 : decode cX0_messageOf 22 = .ok (.getfield 46, 3) := by decide +kernel
theorem dX0_messageOf_25 : decode cX0_messageOf 25 = .ok (.iconst 2, 1) := by decide +kernel
theorem dX0_messageOf_26 : decode cX0_messageOf 26 = .ok (.if_icmp .ne 7, 3) := by decide +kernel
theorem dX0_messageOf_29 : decode cX0_messageOf 29 = .ok (.dload_n 1, 1) := by decide +kernel
theorem dX0_messageOf_30 : decode cX0_messageOf 30 = .ok (.dconst 1, 1) := by decide +kernel
theorem dX0_messageOf_31 : decode cX0_messageOf 31 = .ok (.dadd, 1) := by decide +kernel
theorem dX0_messageOf_32 : decode cX0_messageOf 32 = .ok (.dreturn, 1) := by decide +kernel
theorem dX0_messageOf_33 : decode cX0_messageOf 33 = .ok (.dload_n 1, 1) := by decide +kernel
theorem dX0_messageOf_34 : decode cX0_messageOf 34 = .ok (.dload_n 3, 1) := by decide +kernel
theorem dX0_messageOf_35 : decode cX0_messageOf 35 = .ok (.dcmp .g, 1) := by decide +kernel
theorem dX0_messageOf_36 : decode cX0_messageOf 36 = .ok (.ifCond .gt 7, 3) := by decide +kernel
theorem dX0_messageOf_39 : decode cX0_messageOf 39 = .ok (.dload_n 1, 1) := by decide +kernel
theorem dX0_messageOf_40 : decode cX0_messageOf 40 = .ok (.goto 4, 3) := by decide +kernel
theorem dX0_messageOf_43 : decode cX0_messageOf 43 = .ok (.dload_n 3, 1) := by decide +kernel
theorem dX0_messageOf_44 : decode cX0_messageOf 44 = .ok (.dreturn, 1) := by decide +kernel
theorem dX0_isBetter_0 : decode cX0_isBetter 0 = .ok (.dload_n 1, 1) := by decide +kernel
theorem dX0_isBetter_1 : decode cX0_isBetter 1 = .ok (.ldc2_w 88, 3) := by decide +kernel
theorem dX0_isBetter_4 : decode cX0_isBetter 4 = .ok (.dcmp .l, 1) := by decide +kernel
theorem dX0_isBetter_5 : decode cX0_isBetter 5 = .ok (.ifCond .ne 5, 3) := by decide +kernel
theorem dX0_isBetter_8 : decode cX0_isBetter 8 = .ok (.iconst 0, 1) := by decide +kernel
theorem dX0_isBetter_9 : decode cX0_isBetter 9 = .ok (.ireturn, 1) := by decide +kernel
theorem dX0_isBetter_10 : decode cX0_isBetter 10 = .ok (.dload_n 3, 1) := by decide +kernel
theorem dX0_isBetter_11 : decode cX0_isBetter 11 = .ok (.ldc2_w 88, 3) := by decide +kernel
theorem dX0_isBetter_14 : decode cX0_isBetter 14 = .ok (.dcmp .l, 1) := by decide +kernel
theorem dX0_isBetter_15 : decode cX0_isBetter 15 = .ok (.ifCond .ne 5, 3) := by decide +kernel
theorem dX0_isBetter_18 : decode cX0_isBetter 18 = .ok (.iconst 1, 1) := by decide +kernel
theorem dX0_isBetter_19 : decode cX0_isBetter 19 = .ok (.ireturn, 1) := by decide +kernel
theorem dX0_isBetter_20 : decode cX0_isBetter 20 = .ok (.aload_n 0, 1) := by decide +kernel
theorem dX0_isBetter_21 : decode cX0_isBetter 21 = .ok (.getfield 46, 3) := by decide +kernel
theorem dX0_isBetter_24 : decode cX0_isBetter 24 = .ok (.iconst 3, 1) := by decide +kernel
theorem dX0_isBetter_25 : decode cX0_isBetter 25 = .ok (.if_icmp .ne 17, 3) := by decide +kernel
theorem dX0_isBetter_28 : decode cX0_isBetter 28 = .ok (.dload_n 1, 1) := by decide +kernel
theorem dX0_isBetter_29 : decode cX0_isBetter 29 = .ok (.dload_n 3, 1) := by decide +kernel
theorem dX0_isBetter_30 : decode cX0_isBetter 30 = .ok (.dcmp .l, 1) := by decide +kernel
theorem dX0_isBetter_31 : decode cX0_isBetter 31 = .ok (.ifCond .le 7, 3) := by decide +kernel
theorem dX0_isBetter_34 : decode cX0_isBetter 34 = .ok (.iconst 1, 1) := by decide +kernel
theorem dX0_isBetter_35 : decode cX0_isBetter 35 = .ok (.goto 18, 3) := by decide +kernel
theorem dX0_isBetter_38 : decode cX0_isBetter 38 = .ok (.iconst 0, 1) := by decide +kernel
theorem dX0_isBetter_39 : decode cX0_isBetter 39 = .ok (.goto 14, 3) := by decide +kernel
theorem dX0_isBetter_42 : decode cX0_isBetter 42 = .ok (.dload_n 1, 1) := by decide +kernel
theorem dX0_isBetter_43 : decode cX0_isBetter 43 = .ok (.dload_n 3, 1) := by decide +kernel
theorem dX0_isBetter_44 : decode cX0_isBetter 44 = .ok (.dcmp .g, 1) := by decide +kernel
theorem dX0_isBetter_45 : decode cX0_isBetter 45 = .ok (.ifCond .ge 7, 3) := by decide +kernel
theorem dX0_isBetter_48 : decode cX0_isBetter 48 = .ok (.iconst 1, 1) := by decide +kernel
theorem dX0_isBetter_49 : decode cX0_isBetter 49 = .ok (.goto 4, 3) := by decide +kernel
theorem dX0_isBetter_52 : decode cX0_isBetter 52 = .ok (.iconst 0, 1) := by decide +kernel
theorem dX0_isBetter_53 : decode cX0_isBetter 53 = .ok (.ireturn, 1) := by decide +kernel
set_option maxRecDepth 20000 in
theorem ggX0_doStep_X0_bestWaiting : GoodIn wsX0_doStep wsX0_bestWaiting := goodIn_r _ [9, 2, 10, 11, 12, 13, 14, 8, 15, 16, 50, 51, 52, 53, 54, 55, 56, 57, 58, 59, 60, 61, 62, 63, 64, 65] (by decide +kernel) (by decide +kernel)
set_option maxRecDepth 20000 in
theorem gX0_doStep_X0_bestWaiting : GoodIn wsX0_doStep (wsV RX0 109 RX0 yX0_bestWaiting wsX0_bestWaiting) := goodIn_app (goodIn_of _ (by decide +kernel)) ggX0_doStep_X0_bestWaiting
set_option maxRecDepth 20000 in
theorem ggX0_doStep_X0_isBetter : GoodIn wsX0_doStep wsX0_isBetter := goodIn_r _ [15, 2, 16, 50, 51, 52, 53, 54, 55, 56, 57, 58, 59, 60, 61, 62, 63, 64, 65] (by decide +kernel) (by decide +kernel)
set_option maxRecDepth 20000 in
theorem gX0_doStep_X0_isBetter : GoodIn wsX0_doStep (wsV RX0 113 RX0 yX0_isBetter wsX0_isBetter) := goodIn_app (goodIn_of _ (by decide +kernel)) ggX0_doStep_X0_isBetter
set_option maxRecDepth 20000 in
theorem ggX0_doStep_X0_endStep : GoodIn wsX0_doStep wsX0_endStep := goodIn_r _ [20, 21, 22, 23, 24, 25, 26, 27, 28, 8, 29, 1, 10, 11, 2, 30, 31, 32, 33, 34, 3, 35, 4, 36, 37, 38, 39, 40, 41, 42, 43, 44, 45, 46, 47, 48, 49, 16, 12, 13, 14, 15, 50, 51, 52, 53, 54, 55, 56, 57, 58, 59, 60, 61, 62, 63, 64, 65] (by decide +kernel) (by decide +kernel)
set_option maxRecDepth 20000 in
theorem gX0_doStep_X0_endStep : GoodIn wsX0_doStep (wsV RX0 90 RX0 yX0_endStep wsX0_endStep) := goodIn_app (goodIn_of _ (by decide +kernel)) ggX0_doStep_X0_endStep
theorem dX0_doStep_0 : decode cX0_doStep 0 = .ok (.iconst 0, 1) := by decide +kernel
theorem dX0_doStep_1 : decode cX0_doStep 1 = .ok (.istore_n 1, 1) := by decide +kernel
theorem dX0_doStep_2 : decode cX0_doStep 2 = .ok (.iconst 0, 1) := by decide +kernel
theorem dX0_doStep_3 : decode cX0_doStep 3 = .ok (.istore_n 2, 1) := by decide +kernel
theorem dX0_doStep_4 : decode cX0_doStep 4 = .ok (.iload_n 2, 1) := by decide +kernel
theorem dX0_doStep_5 : decode cX0_doStep 5 = .ok (.aload_n 0, 1) := by decide +kernel
theorem dX0_doStep_6 : decode cX0_doStep 6 = .ok (.getfield 20, 3) := by decide +kernel
theorem dX0_doStep_9 : decode cX0_doStep 9 = .ok (.if_icmp .ge 59, 3) := by decide +kernel
theorem dX0_doStep_12 : decode cX0_doStep 12 = .ok (.aload_n 0, 1) := by decide +kernel
theorem dX0_doStep_13 : decode cX0_doStep 13 = .ok (.iload_n 2, 1) := by decide +kernel
theorem dX0_doStep_14 : decode cX0_doStep 14 = .ok (.invokevirtual 109, 3) := by decide +kernel
theorem dX0_doStep_17 : decode cX0_doStep 17 = .ok (.dstore_n 3, 1) := by decide +kernel
theorem dX0_doStep_18 : decode cX0_doStep 18 = .ok (.dload_n 3, 1) := by decide +kernel
theorem dX0_doStep_19 : decode cX0_doStep 19 = .ok (.ldc2_w 88, 3) := by decide +kernel
theorem dX0_doStep_22 : decode cX0_doStep 22 = .ok (.dcmp .l, 1) := by decide +kernel
theorem dX0_doStep_23 : decode cX0_doStep 23 = .ok (.ifCond .eq 6, 3) := by decide +kernel
theorem dX0_doStep_26 : decode cX0_doStep 26 = .ok (.iinc 1 1, 3) := by decide +kernel
theorem dX0_doStep_29 : decode cX0_doStep 29 = .ok (.aload_n 0, 1) := by decide +kernel
theorem dX0_doStep_30 : decode cX0_doStep 30 = .ok (.getfield 33, 3) := by decide +kernel
theorem dX0_doStep_33 : decode cX0_doStep 33 = .ok (.iload_n 2, 1) := by decide +kernel
theorem dX0_doStep_34 : decode cX0_doStep 34 = .ok (.aload_n 0, 1) := by decide +kernel
theorem dX0_doStep_35 : decode cX0_doStep 35 = .ok (.dload_n 3, 1) := by decide +kernel
theorem dX0_doStep_36 : decode cX0_doStep 36 = .ok (.aload_n 0, 1) := by decide +kernel
theorem dX0_doStep_37 : decode cX0_doStep 37 = .ok (.getfield 30, 3) := by decide +kernel
theorem dX0_doStep_40 : decode cX0_doStep 40 = .ok (.iload_n 2, 1) := by decide +kernel
theorem dX0_doStep_41 : decode cX0_doStep 41 = .ok (.daload, 1) := by decide +kernel
theorem dX0_doStep_42 : decode cX0_doStep 42 = .ok (.invokevirtual 113, 3) := by decide +kernel
theorem dX0_doStep_45 : decode cX0_doStep 45 = .ok (.bastore, 1) := by decide +kernel
theorem dX0_doStep_46 : decode cX0_doStep 46 = .ok (.aload_n 0, 1) := by decide +kernel
theorem dX0_doStep_47 : decode cX0_doStep 47 = .ok (.getfield 33, 3) := by decide +kernel
theorem dX0_doStep_50 : decode cX0_doStep 50 = .ok (.iload_n 2, 1) := by decide +kernel
theorem dX0_doStep_51 : decode cX0_doStep 51 = .ok (.baload, 1) := by decide +kernel
theorem dX0_doStep_52 : decode cX0_doStep 52 = .ok (.ifCond .eq 10, 3) := by decide +kernel
theorem dX0_doStep_55 : decode cX0_doStep 55 = .ok (.aload_n 0, 1) := by decide +kernel
theorem dX0_doStep_56 : decode cX0_doStep 56 = .ok (.getfield 30, 3) := by decide +kernel
theorem dX0_doStep_59 : decode cX0_doStep 59 = .ok (.iload_n 2, 1) := by decide +kernel
theorem dX0_doStep_60 : decode cX0_doStep 60 = .ok (.dload_n 3, 1) := by decide +kernel
theorem dX0_doStep_61 : decode cX0_doStep 61 = .ok (.dastore, 1) := by decide +kernel
theorem dX0_doStep_62 : decode cX0_doStep 62 = .ok (.iinc 2 1, 3) := by decide +kernel
theorem dX0_doStep_65 : decode cX0_doStep 65 = .ok (.goto (-61), 3) := by decide +kernel
theorem dX0_doStep_68 : decode cX0_doStep 68 = .ok (.aload_n 0, 1) := by decide +kernel
theorem dX0_doStep_69 : decode cX0_doStep 69 = .ok (.invokevirtual 90, 3) := by decide +kernel
theorem dX0_doStep_72 : decode cX0_doStep 72 = .ok (.iload_n 1, 1) := by decide +kernel
theorem dX0_doStep_73 : decode cX0_doStep 73 = .ok (.ireturn, 1) := by decide +kernel
set_option maxRecDepth 20000 in
theorem ggX0_bestWaiting_X0_isBetter : GoodIn wsX0_bestWaiting wsX0_isBetter := goodIn_r _ [8, 1, 9, 10, 11, 12, 13, 14, 15, 16, 17, 18, 19, 20, 21, 22, 23, 24, 25] (by decide +kernel) (by decide +kernel)
set_option maxRecDepth 20000 in
theorem gX0_bestWaiting_X0_isBetter : GoodIn wsX0_bestWaiting (wsV RX0 113 RX0 yX0_isBetter wsX0_isBetter) := goodIn_app (goodIn_of _ (by decide +kernel)) ggX0_bestWaiting_X0_isBetter
theorem dX0_bestWaiting_0 : decode cX0_bestWaiting 0 = .ok (.ldc2_w 88, 3) := by decide +kernel
theorem dX0_bestWaiting_3 : decode cX0_bestWaiting 3 = .ok (.dstore_n 2, 1) := by decide +kernel
theorem dX0_bestWaiting_4 : decode cX0_bestWaiting 4 = .ok (.iconst 0, 1) := by decide +kernel
theorem dX0_bestWaiting_5 : decode cX0_bestWaiting 5 = .ok (.istore 4, 2) := by decide +kernel
theorem dX0_bestWaiting_7 : decode cX0_bestWaiting 7 = .ok (.iload 4, 2) := by decide +kernel
theorem dX0_bestWaiting_9 : decode cX0_bestWaiting 9 = .ok (.aload_n 0, 1) := by decide +kernel
theorem dX0_bestWaiting_10 : decode cX0_bestWaiting 10 = .ok (.getfield 27, 3) := by decide +kernel
theorem dX0_bestWaiting_13 : decode cX0_bestWaiting 13 = .ok (.if_icmp .ge 36, 3) := by decide +kernel
theorem dX0_bestWaiting_16 : decode cX0_bestWaiting 16 = .ok (.aload_n 0, 1) := by decide +kernel
theorem dX0_bestWaiting_17 : decode cX0_bestWaiting 17 = .ok (.aload_n 0, 1) := by decide +kernel
theorem dX0_bestWaiting_18 : decode cX0_bestWaiting 18 = .ok (.getfield 39, 3) := by decide +kernel
theorem dX0_bestWaiting_21 : decode cX0_bestWaiting 21 = .ok (.iload_n 1, 1) := by decide +kernel
theorem dX0_bestWaiting_22 : decode cX0_bestWaiting 22 = .ok (.aaload, 1) := by decide +kernel
theorem dX0_bestWaiting_23 : decode cX0_bestWaiting 23 = .ok (.iload 4, 2) := by decide +kernel
theorem dX0_bestWaiting_25 : decode cX0_bestWaiting 25 = .ok (.daload, 1) := by decide +kernel
theorem dX0_bestWaiting_26 : decode cX0_bestWaiting 26 = .ok (.dload_n 2, 1) := by decide +kernel
theorem dX0_bestWaiting_27 : decode cX0_bestWaiting 27 = .ok (.invokevirtual 113, 3) := by decide +kernel
theorem dX0_bestWaiting_30 : decode cX0_bestWaiting 30 = .ok (.ifCond .eq 13, 3) := by decide +kernel
theorem dX0_bestWaiting_33 : decode cX0_bestWaiting 33 = .ok (.aload_n 0, 1) := by decide +kernel
theorem dX0_bestWaiting_34 : decode cX0_bestWaiting 34 = .ok (.getfield 39, 3) := by decide +kernel
theorem dX0_bestWaiting_37 : decode cX0_bestWaiting 37 = .ok (.iload_n 1, 1) := by decide +kernel
theorem dX0_bestWaiting_38 : decode cX0_bestWaiting 38 = .ok (.aaload, 1) := by decide +kernel
theorem dX0_bestWaiting_39 : decode cX0_bestWaiting 39 = .ok (.iload 4, 2) := by decide +kernel
theorem dX0_bestWaiting_41 : decode cX0_bestWaiting 41 = .ok (.daload, 1) := by decide +kernel
theorem dX0_bestWaiting_42 : decode cX0_bestWaiting 42 = .ok (.dstore_n 2, 1) := by decide +kernel
theorem dX0_bestWaiting_43 : decode cX0_bestWaiting 43 = .ok (.iinc 4 1, 3) := by decide +kernel
theorem dX0_bestWaiting_46 : decode cX0_bestWaiting 46 = .ok (.goto (-39), 3) := by decide +kernel
theorem dX0_bestWaiting_49 : decode cX0_bestWaiting 49 = .ok (.dload_n 2, 1) := by decide +kernel
theorem dX0_bestWaiting_50 : decode cX0_bestWaiting 50 = .ok (.dreturn, 1) := by decide +kernel
set_option maxRecDepth 20000 in
theorem ggX0_endStep_X0_clearWaiting : GoodIn wsX0_endStep wsX0_clearWaiting := goodIn_r _ [10, 11, 12, 13, 14, 15, 42, 43, 44, 45, 46, 47, 48, 49, 50, 51, 52, 53, 54, 55, 56, 57] (by decide +kernel) (by decide +kernel)
set_option maxRecDepth 20000 in
theorem gX0_endStep_X0_clearWaiting : GoodIn wsX0_endStep (wsV RX0 117 RX0 yX0_clearWaiting wsX0_clearWaiting) := goodIn_app (goodIn_of _ (by decide +kernel)) ggX0_endStep_X0_clearWaiting
set_option maxRecDepth 20000 in
theorem ggX0_endStep_X0_sendAlong : GoodIn wsX0_endStep wsX0_sendAlong := goodIn_r _ [19, 20, 21, 13, 14, 22, 23, 24, 25, 9, 26, 12, 27, 28, 29, 30, 15, 31, 32, 33, 34, 35, 36, 37, 38, 39, 40, 41, 42, 43, 44, 45, 46, 47, 48, 49, 50, 51, 52, 53, 54, 55, 56, 57] (by decide +kernel) (by decide +kernel)
set_option maxRecDepth 20000 in
theorem gX0_endStep_X0_sendAlong : GoodIn wsX0_endStep (wsV RX0 120 RX0 yX0_sendAlong wsX0_sendAlong) := goodIn_app (goodIn_of _ (by decide +kernel)) ggX0_endStep_X0_sendAlong
theorem dX0_endStep_0 : decode cX0_endStep 0 = .ok (.aload_n 0, 1) := by decide +kernel
theorem dX0_endStep_1 : decode cX0_endStep 1 = .ok (.invokevirtual 117, 3) := by decide +kernel
theorem dX0_endStep_4 : decode cX0_endStep 4 = .ok (.iconst 0, 1) := by decide +kernel
theorem dX0_endStep_5 : decode cX0_endStep 5 = .ok (.istore_n 1, 1) := by decide +kernel
theorem dX0_endStep_6 : decode cX0_endStep 6 = .ok (.iload_n 1, 1) := by decide +kernel
theorem dX0_endStep_7 : decode cX0_endStep 7 = .ok (.aload_n 0, 1) := by decide +kernel
theorem dX0_endStep_8 : decode cX0_endStep 8 = .ok (.getfield 24, 3) := by decide +kernel
theorem dX0_endStep_11 : decode cX0_endStep 11 = .ok (.if_icmp .ge 53, 3) := by decide +kernel
theorem dX0_endStep_14 : decode cX0_endStep 14 = .ok (.aload_n 0, 1) := by decide +kernel
theorem dX0_endStep_15 : decode cX0_endStep 15 = .ok (.aload_n 0, 1) := by decide +kernel
theorem dX0_endStep_16 : decode cX0_endStep 16 = .ok (.getfield 9, 3) := by decide +kernel
theorem dX0_endStep_19 : decode cX0_endStep 19 = .ok (.iload_n 1, 1) := by decide +kernel
theorem dX0_endStep_20 : decode cX0_endStep 20 = .ok (.iaload, 1) := by decide +kernel
theorem dX0_endStep_21 : decode cX0_endStep 21 = .ok (.aload_n 0, 1) := by decide +kernel
theorem dX0_endStep_22 : decode cX0_endStep 22 = .ok (.getfield 13, 3) := by decide +kernel
theorem dX0_endStep_25 : decode cX0_endStep 25 = .ok (.iload_n 1, 1) := by decide +kernel
theorem dX0_endStep_26 : decode cX0_endStep 26 = .ok (.iaload, 1) := by decide +kernel
theorem dX0_endStep_27 : decode cX0_endStep 27 = .ok (.aload_n 0, 1) := by decide +kernel
theorem dX0_endStep_28 : decode cX0_endStep 28 = .ok (.getfield 16, 3) := by decide +kernel
theorem dX0_endStep_31 : decode cX0_endStep 31 = .ok (.iload_n 1, 1) := by decide +kernel
theorem dX0_endStep_32 : decode cX0_endStep 32 = .ok (.daload, 1) := by decide +kernel
theorem dX0_endStep_33 : decode cX0_endStep 33 = .ok (.invokevirtual 120, 3) := by decide +kernel
theorem dX0_endStep_36 : decode cX0_endStep 36 = .ok (.aload_n 0, 1) := by decide +kernel
theorem dX0_endStep_37 : decode cX0_endStep 37 = .ok (.aload_n 0, 1) := by decide +kernel
theorem dX0_endStep_38 : decode cX0_endStep 38 = .ok (.getfield 13, 3) := by decide +kernel
theorem dX0_endStep_41 : decode cX0_endStep 41 = .ok (.iload_n 1, 1) := by decide +kernel
theorem dX0_endStep_42 : decode cX0_endStep 42 = .ok (.iaload, 1) := by decide +kernel
theorem dX0_endStep_43 : decode cX0_endStep 43 = .ok (.aload_n 0, 1) := by decide +kernel
theorem dX0_endStep_44 : decode cX0_endStep 44 = .ok (.getfield 9, 3) := by decide +kernel
theorem dX0_endStep_47 : decode cX0_endStep 47 = .ok (.iload_n 1, 1) := by decide +kernel
theorem dX0_endStep_48 : decode cX0_endStep 48 = .ok (.iaload, 1) := by decide +kernel
theorem dX0_endStep_49 : decode cX0_endStep 49 = .ok (.aload_n 0, 1) := by decide +kernel
theorem dX0_endStep_50 : decode cX0_endStep 50 = .ok (.getfield 16, 3) := by decide +kernel
theorem dX0_endStep_53 : decode cX0_endStep 53 = .ok (.iload_n 1, 1) := by decide +kernel
theorem dX0_endStep_54 : decode cX0_endStep 54 = .ok (.daload, 1) := by decide +kernel
theorem dX0_endStep_55 : decode cX0_endStep 55 = .ok (.invokevirtual 120, 3) := by decide +kernel
theorem dX0_endStep_58 : decode cX0_endStep 58 = .ok (.iinc 1 1, 3) := by decide +kernel
theorem dX0_endStep_61 : decode cX0_endStep 61 = .ok (.goto (-55), 3) := by decide +kernel
theorem dX0_endStep_64 : decode cX0_endStep 64 = .ok (.aload_n 0, 1) := by decide +kernel
theorem dX0_endStep_65 : decode cX0_endStep 65 = .ok (.dup, 1) := by decide +kernel
theorem dX0_endStep_66 : decode cX0_endStep 66 = .ok (.getfield 52, 3) := by decide +kernel
theorem dX0_endStep_69 : decode cX0_endStep 69 = .ok (.iconst 1, 1) := by decide +kernel
theorem dX0_endStep_70 : decode cX0_endStep 70 = .ok (.iadd, 1) := by decide +kernel
theorem dX0_endStep_71 : decode cX0_endStep 71 = .ok (.putfield 52, 3) := by decide +kernel
theorem dX0_endStep_74 : decode cX0_endStep 74 = .ok (.return_, 1) := by decide +kernel
theorem dX0_clearWaiting_0 : decode cX0_clearWaiting 0 = .ok (.iconst 0, 1) := by decide +kernel
theorem dX0_clearWaiting_1 : decode cX0_clearWaiting 1 = .ok (.istore_n 1, 1) := by decide +kernel
theorem dX0_clearWaiting_2 : decode cX0_clearWaiting 2 = .ok (.iload_n 1, 1) := by decide +kernel
theorem dX0_clearWaiting_3 : decode cX0_clearWaiting 3 = .ok (.aload_n 0, 1) := by decide +kernel
theorem dX0_clearWaiting_4 : decode cX0_clearWaiting 4 = .ok (.getfield 20, 3) := by decide +kernel
theorem dX0_clearWaiting_7 : decode cX0_clearWaiting 7 = .ok (.if_icmp .ge 36, 3) := by decide +kernel
theorem dX0_clearWaiting_10 : decode cX0_clearWaiting 10 = .ok (.iconst 0, 1) := by decide +kernel
theorem dX0_clearWaiting_11 : decode cX0_clearWaiting 11 = .ok (.istore_n 2, 1) := by decide +kernel
theorem dX0_clearWaiting_12 : decode cX0_clearWaiting 12 = .ok (.iload_n 2, 1) := by decide +kernel
theorem dX0_clearWaiting_13 : decode cX0_clearWaiting 13 = .ok (.aload_n 0, 1) := by decide +kernel
theorem dX0_clearWaiting_14 : decode cX0_clearWaiting 14 = .ok (.getfield 27, 3) := by decide +kernel
theorem dX0_clearWaiting_17 : decode cX0_clearWaiting 17 = .ok (.if_icmp .ge 20, 3) := by decide +kernel
theorem dX0_clearWaiting_20 : decode cX0_clearWaiting 20 = .ok (.aload_n 0, 1) := by decide +kernel
theorem dX0_clearWaiting_21 : decode cX0_clearWaiting 21 = .ok (.getfield 39, 3) := by decide +kernel
theorem dX0_clearWaiting_24 : decode cX0_clearWaiting 24 = .ok (.iload_n 1, 1) := by decide +kernel
theorem dX0_clearWaiting_25 : decode cX0_clearWaiting 25 = .ok (.aaload, 1) := by decide +kernel
theorem dX0_clearWaiting_26 : decode cX0_clearWaiting 26 = .ok (.iload_n 2, 1) := by decide +kernel
theorem dX0_clearWaiting_27 : decode cX0_clearWaiting 27 = .ok (.ldc2_w 88, 3) := by decide +kernel
theorem dX0_clearWaiting_30 : decode cX0_clearWaiting 30 = .ok (.dastore, 1) := by decide +kernel
theorem dX0_clearWaiting_31 : decode cX0_clearWaiting 31 = .ok (.iinc 2 1, 3) := by decide +kernel
theorem dX0_clearWaiting_34 : decode cX0_clearWaiting 34 = .ok (.goto (-22), 3) := by decide +kernel
theorem dX0_clearWaiting_37 : decode cX0_clearWaiting 37 = .ok (.iinc 1 1, 3) := by decide +kernel
theorem dX0_clearWaiting_40 : decode cX0_clearWaiting 40 = .ok (.goto (-38), 3) := by decide +kernel
theorem dX0_clearWaiting_43 : decode cX0_clearWaiting 43 = .ok (.aload_n 0, 1) := by decide +kernel
theorem dX0_clearWaiting_44 : decode cX0_clearWaiting 44 = .ok (.iconst 0, 1) := by decide +kernel
theorem dX0_clearWaiting_45 : decode cX0_clearWaiting 45 = .ok (.putfield 49, 3) := by decide +kernel
theorem dX0_clearWaiting_48 : decode cX0_clearWaiting 48 = .ok (.return_, 1) := by decide +kernel
set_option maxRecDepth 20000 in
theorem ggX0_sendAlong_X0_partOf : GoodIn wsX0_sendAlong wsX0_partOf := goodIn_r _ [10, 11, 28, 29, 30, 31, 32, 33, 34, 35, 36, 37, 38, 39, 40, 41, 42, 43] (by decide +kernel) (by decide +kernel)
set_option maxRecDepth 20000 in
theorem gX0_sendAlong_X0_partOf : GoodIn wsX0_sendAlong (wsV RX0 124 RX0 yX0_partOf wsX0_partOf) := goodIn_app (goodIn_of _ (by decide +kernel)) ggX0_sendAlong_X0_partOf
set_option maxRecDepth 20000 in
theorem ggX0_sendAlong_X0_countDelivery : GoodIn wsX0_sendAlong wsX0_countDelivery := goodIn_r _ [15, 16, 17, 18, 6, 7, 8, 9, 10, 11, 28, 29, 30, 31, 32, 33, 34, 35, 36, 37, 38, 39, 40, 41, 42, 43] (by decide +kernel) (by decide +kernel)
set_option maxRecDepth 20000 in
theorem gX0_sendAlong_X0_countDelivery : GoodIn wsX0_sendAlong (wsV RX0 128 RX0 yX0_countDelivery wsX0_countDelivery) := goodIn_app (goodIn_of _ (by decide +kernel)) ggX0_sendAlong_X0_countDelivery
set_option maxRecDepth 20000 in
theorem ggX0_sendAlong_X0_messageOf : GoodIn wsX0_sendAlong wsX0_messageOf := goodIn_r _ [22, 23, 28, 29, 30, 31, 32, 33, 34, 35, 36, 37, 38, 39, 40, 41, 42, 43] (by decide +kernel) (by decide +kernel)
set_option maxRecDepth 20000 in
theorem gX0_sendAlong_X0_messageOf : GoodIn wsX0_sendAlong (wsV RX0 132 RX0 yX0_messageOf wsX0_messageOf) := goodIn_app (goodIn_of _ (by decide +kernel)) ggX0_sendAlong_X0_messageOf
set_option maxRecDepth 20000 in
theorem ggX0_sendAlong_X0_isBetter : GoodIn wsX0_sendAlong wsX0_isBetter := goodIn_r _ [27, 4, 23, 28, 29, 30, 31, 32, 33, 34, 35, 36, 37, 38, 39, 40, 41, 42, 43] (by decide +kernel) (by decide +kernel)
set_option maxRecDepth 20000 in
theorem gX0_sendAlong_X0_isBetter : GoodIn wsX0_sendAlong (wsV RX0 113 RX0 yX0_isBetter wsX0_isBetter) := goodIn_app (goodIn_of _ (by decide +kernel)) ggX0_sendAlong_X0_isBetter
theorem dX0_sendAlong_0 : decode cX0_sendAlong 0 = .ok (.aload_n 0, 1) := by decide +kernel
theorem dX0_sendAlong_1 : decode cX0_sendAlong 1 = .ok (.getfield 33, 3) := by decide +kernel
theorem dX0_sendAlong_4 : decode cX0_sendAlong 4 = .ok (.iload_n 1, 1) := by decide +kernel
theorem dX0_sendAlong_5 : decode cX0_sendAlong 5 = .ok (.baload, 1) := by decide +kernel
theorem dX0_sendAlong_6 : decode cX0_sendAlong 6 = .ok (.ifCond .ne 4, 3) := by decide +kernel
theorem dX0_sendAlong_9 : decode cX0_sendAlong 9 = .ok (.return_, 1) := by decide +kernel
theorem dX0_sendAlong_10 : decode cX0_sendAlong 10 = .ok (.aload_n 0, 1) := by decide +kernel
theorem dX0_sendAlong_11 : decode cX0_sendAlong 11 = .ok (.dup, 1) := by decide +kernel
theorem dX0_sendAlong_12 : decode cX0_sendAlong 12 = .ok (.getfield 55, 3) := by decide +kernel
theorem dX0_sendAlong_15 : decode cX0_sendAlong 15 = .ok (.iconst 1, 1) := by decide +kernel
theorem dX0_sendAlong_16 : decode cX0_sendAlong 16 = .ok (.iadd, 1) := by decide +kernel
theorem dX0_sendAlong_17 : decode cX0_sendAlong 17 = .ok (.putfield 55, 3) := by decide +kernel
theorem dX0_sendAlong_20 : decode cX0_sendAlong 20 = .ok (.aload_n 0, 1) := by decide +kernel
theorem dX0_sendAlong_21 : decode cX0_sendAlong 21 = .ok (.iload_n 1, 1) := by decide +kernel
theorem dX0_sendAlong_22 : decode cX0_sendAlong 22 = .ok (.invokevirtual 124, 3) := by decide +kernel
theorem dX0_sendAlong_25 : decode cX0_sendAlong 25 = .ok (.istore 5, 2) := by decide +kernel
theorem dX0_sendAlong_27 : decode cX0_sendAlong 27 = .ok (.aload_n 0, 1) := by decide +kernel
theorem dX0_sendAlong_28 : decode cX0_sendAlong 28 = .ok (.getfield 39, 3) := by decide +kernel
theorem dX0_sendAlong_31 : decode cX0_sendAlong 31 = .ok (.iload_n 2, 1) := by decide +kernel
theorem dX0_sendAlong_32 : decode cX0_sendAlong 32 = .ok (.aaload, 1) := by decide +kernel
theorem dX0_sendAlong_33 : decode cX0_sendAlong 33 = .ok (.iload 5, 2) := by decide +kernel
theorem dX0_sendAlong_35 : decode cX0_sendAlong 35 = .ok (.daload, 1) := by decide +kernel
theorem dX0_sendAlong_36 : decode cX0_sendAlong 36 = .ok (.ldc2_w 88, 3) := by decide +kernel
theorem dX0_sendAlong_39 : decode cX0_sendAlong 39 = .ok (.dcmp .l, 1) := by decide +kernel
theorem dX0_sendAlong_40 : decode cX0_sendAlong 40 = .ok (.ifCond .ne 10, 3) := by decide +kernel
theorem dX0_sendAlong_43 : decode cX0_sendAlong 43 = .ok (.aload_n 0, 1) := by decide +kernel
theorem dX0_sendAlong_44 : decode cX0_sendAlong 44 = .ok (.iload 5, 2) := by decide +kernel
theorem dX0_sendAlong_46 : decode cX0_sendAlong 46 = .ok (.iload_n 2, 1) := by decide +kernel
theorem dX0_sendAlong_47 : decode cX0_sendAlong 47 = .ok (.invokevirtual 128, 3) := by decide +kernel
theorem dX0_sendAlong_50 : decode cX0_sendAlong 50 = .ok (.aload_n 0, 1) := by decide +kernel
theorem dX0_sendAlong_51 : decode cX0_sendAlong 51 = .ok (.aload_n 0, 1) := by decide +kernel
theorem dX0_sendAlong_52 : decode cX0_sendAlong 52 = .ok (.getfield 30, 3) := by decide +kernel
theorem dX0_sendAlong_55 : decode cX0_sendAlong 55 = .ok (.iload_n 1, 1) := by decide +kernel
theorem dX0_sendAlong_56 : decode cX0_sendAlong 56 = .ok (.daload, 1) := by decide +kernel
theorem dX0_sendAlong_57 : decode cX0_sendAlong 57 = .ok (.dload_n 3, 1) := by decide +kernel
theorem dX0_sendAlong_58 : decode cX0_sendAlong 58 = .ok (.invokevirtual 132, 3) := by decide +kernel
theorem dX0_sendAlong_61 : decode cX0_sendAlong 61 = .ok (.dstore 6, 2) := by decide +kernel
theorem dX0_sendAlong_63 : decode cX0_sendAlong 63 = .ok (.aload_n 0, 1) := by decide +kernel
theorem dX0_sendAlong_64 : decode cX0_sendAlong 64 = .ok (.dload 6, 2) := by decide +kernel
theorem dX0_sendAlong_66 : decode cX0_sendAlong 66 = .ok (.aload_n 0, 1) := by decide +kernel
theorem dX0_sendAlong_67 : decode cX0_sendAlong 67 = .ok (.getfield 39, 3) := by decide +kernel
theorem dX0_sendAlong_70 : decode cX0_sendAlong 70 = .ok (.iload_n 2, 1) := by decide +kernel
theorem dX0_sendAlong_71 : decode cX0_sendAlong 71 = .ok (.aaload, 1) := by decide +kernel
theorem dX0_sendAlong_72 : decode cX0_sendAlong 72 = .ok (.iload 5, 2) := by decide +kernel
theorem dX0_sendAlong_74 : decode cX0_sendAlong 74 = .ok (.daload, 1) := by decide +kernel
theorem dX0_sendAlong_75 : decode cX0_sendAlong 75 = .ok (.invokevirtual 113, 3) := by decide +kernel
theorem dX0_sendAlong_78 : decode cX0_sendAlong 78 = .ok (.ifCond .eq 14, 3) := by decide +kernel
theorem dX0_sendAlong_81 : decode cX0_sendAlong 81 = .ok (.aload_n 0, 1) := by decide +kernel
theorem dX0_sendAlong_82 : decode cX0_sendAlong 82 = .ok (.getfield 39, 3) := by decide +kernel
theorem dX0_sendAlong_85 : decode cX0_sendAlong 85 = .ok (.iload_n 2, 1) := by decide +kernel
theorem dX0_sendAlong_86 : decode cX0_sendAlong 86 = .ok (.aaload, 1) := by decide +kernel
theorem dX0_sendAlong_87 : decode cX0_sendAlong 87 = .ok (.iload 5, 2) := by decide +kernel
theorem dX0_sendAlong_89 : decode cX0_sendAlong 89 = .ok (.dload 6, 2) := by decide +kernel
theorem dX0_sendAlong_91 : decode cX0_sendAlong 91 = .ok (.dastore, 1) := by decide +kernel
theorem dX0_sendAlong_92 : decode cX0_sendAlong 92 = .ok (.return_, 1) := by decide +kernel
set_option maxRecDepth 20000 in
theorem ggX0_countDelivery_X0_partOf : GoodIn wsX0_countDelivery wsX0_partOf := goodIn_r _ [8, 9, 10, 11, 12, 13, 14, 15, 16, 17, 18, 19, 20, 21, 22, 23, 24, 25] (by decide +kernel) (by decide +kernel)
set_option maxRecDepth 20000 in
theorem gX0_countDelivery_X0_partOf : GoodIn wsX0_countDelivery (wsV RX0 124 RX0 yX0_partOf wsX0_partOf) := goodIn_app (goodIn_of _ (by decide +kernel)) ggX0_countDelivery_X0_partOf
theorem dX0_countDelivery_0 : decode cX0_countDelivery 0 = .ok (.aload_n 0, 1) := by decide +kernel
theorem dX0_countDelivery_1 : decode cX0_countDelivery 1 = .ok (.dup, 1) := by decide +kernel
theorem dX0_countDelivery_2 : decode cX0_countDelivery 2 = .ok (.getfield 49, 3) := by decide +kernel
theorem dX0_countDelivery_5 : decode cX0_countDelivery 5 = .ok (.iconst 1, 1) := by decide +kernel
theorem dX0_countDelivery_6 : decode cX0_countDelivery 6 = .ok (.iadd, 1) := by decide +kernel
theorem dX0_countDelivery_7 : decode cX0_countDelivery 7 = .ok (.putfield 49, 3) := by decide +kernel
theorem dX0_countDelivery_10 : decode cX0_countDelivery 10 = .ok (.aload_n 0, 1) := by decide +kernel
theorem dX0_countDelivery_11 : decode cX0_countDelivery 11 = .ok (.dup, 1) := by decide +kernel
theorem dX0_countDelivery_12 : decode cX0_countDelivery 12 = .ok (.getfield 58, 3) := by decide +kernel
theorem dX0_countDelivery_15 : decode cX0_countDelivery 15 = .ok (.iconst 1, 1) := by decide +kernel
theorem dX0_countDelivery_16 : decode cX0_countDelivery 16 = .ok (.iadd, 1) := by decide +kernel
theorem dX0_countDelivery_17 : decode cX0_countDelivery 17 = .ok (.putfield 58, 3) := by decide +kernel
theorem dX0_countDelivery_20 : decode cX0_countDelivery 20 = .ok (.aload_n 0, 1) := by decide +kernel
theorem dX0_countDelivery_21 : decode cX0_countDelivery 21 = .ok (.iload_n 2, 1) := by decide +kernel
theorem dX0_countDelivery_22 : decode cX0_countDelivery 22 = .ok (.invokevirtual 124, 3) := by decide +kernel
theorem dX0_countDelivery_25 : decode cX0_countDelivery 25 = .ok (.iload_n 1, 1) := by decide +kernel
theorem dX0_countDelivery_26 : decode cX0_countDelivery 26 = .ok (.if_icmp .eq 13, 3) := by decide +kernel
theorem dX0_countDelivery_29 : decode cX0_countDelivery 29 = .ok (.aload_n 0, 1) := by decide +kernel
theorem dX0_countDelivery_30 : decode cX0_countDelivery 30 = .ok (.dup, 1) := by decide +kernel
theorem dX0_countDelivery_31 : decode cX0_countDelivery 31 = .ok (.getfield 61, 3) := by decide +kernel
theorem dX0_countDelivery_34 : decode cX0_countDelivery 34 = .ok (.iconst 1, 1) := by decide +kernel
theorem dX0_countDelivery_35 : decode cX0_countDelivery 35 = .ok (.iadd, 1) := by decide +kernel
theorem dX0_countDelivery_36 : decode cX0_countDelivery 36 = .ok (.putfield 61, 3) := by decide +kernel
theorem dX0_countDelivery_39 : decode cX0_countDelivery 39 = .ok (.return_, 1) := by decide +kernel
end
section
/-! ROWS OF OUR OWN: arrays at places given by a Nat; calls of methods on the same world. -/
section KR
variable {p : Program} {l : Launch} {e : Env} {R : Room} {s : State} {m : MethodId} {args : Array Value} {below : List Frame} {meth : Method} {c : Code} {H : Heap} {locs : List Loc} {cells slots : Nat} {Q : State → Prop}
variable {cc : ByteArray} {pc : Nat} {ls : Array Slot} {rest : List Value} {D : va_G} {cl : List vw_C} {A : Nat → Prop} {a : Nat} {tys : List (ClassId × FieldType)} {ws : va_W} {H0 : Heap}
theorem k_iald (hexec : p.tables.exec = Jvm.exec) (hb : c.code = cc) (hK : va_K D cl tys s) (hP : va_P D cl ws H) (q0 t0 : Nat) {cA : ClassId} {n : Nat} {f : Nat → Int32} (ha : ws[q0]? = some (a, .inl (cA, n, .inl f))) (ht : tys[t0]? = some (cA, .int)) {j : Nat} (hj : j < n) (hn : n < 2 ^ 31) (hdg : decode cc pc = .ok (.iaload, 1))
    (kk : W p l e R s m args below meth c H locs cells slots Q (F0 m (pc + 1) ls (.int (f j) :: rest))) : W p l e R s m args below meth c H locs cells slots Q (F0 m pc ls (.int (nI j) :: .ref a :: rest)) := by
  refine va_iald hexec hb hK hP q0 t0 ha ht (vp_in_nI hj hn) hdg ?_
  rw [nI_clamp (show j < 2 ^ 31 by omega)]
  exact kk
theorem k_zald (hexec : p.tables.exec = Jvm.exec) (hb : c.code = cc) (hK : va_K D cl tys s) (hP : va_P D cl ws H) (q0 t0 : Nat) {cA : ClassId} {n : Nat} {f : Nat → Int32} (ha : ws[q0]? = some (a, .inl (cA, n, .inl f))) (ht : tys[t0]? = some (cA, .boolean)) {j : Nat} (hj : j < n) (hn : n < 2 ^ 31) (hdg : decode cc pc = .ok (.baload, 1))
    (kk : W p l e R s m args below meth c H locs cells slots Q (F0 m (pc + 1) ls (.int (f j) :: rest))) : W p l e R s m args below meth c H locs cells slots Q (F0 m pc ls (.int (nI j) :: .ref a :: rest)) := by
  refine va_zald hexec hb hK hP q0 t0 ha ht (vp_in_nI hj hn) hdg ?_
  rw [nI_clamp (show j < 2 ^ 31 by omega)]
  exact kk
theorem k_dald (hexec : p.tables.exec = Jvm.exec) (hb : c.code = cc) (hK : va_K D cl tys s) (hP : va_P D cl ws H) (q0 t0 : Nat) {cA : ClassId} {n : Nat} {f : Nat → UInt64} (ha : ws[q0]? = some (a, .inl (cA, n, .inr (.inr (.inr (.inl f)))))) (ht : tys[t0]? = some (cA, .double)) {j : Nat} (hj : j < n) (hn : n < 2 ^ 31) (hdg : decode cc pc = .ok (.daload, 1))
    (kk : W p l e R s m args below meth c H locs cells slots Q (F0 m (pc + 1) ls (.double (f j) :: rest))) : W p l e R s m args below meth c H locs cells slots Q (F0 m pc ls (.int (nI j) :: .ref a :: rest)) := by
  refine va_dald hexec hb hK hP q0 t0 ha ht (vp_in_nI hj hn) hdg ?_
  rw [nI_clamp (show j < 2 ^ 31 by omega)]
  exact kk
theorem k_iast (hexec : p.tables.exec = Jvm.exec) (hb : c.code = cc) (hK : va_K D cl tys s) (hP : va_P D cl ws H) (hD : va_D A ws) (hS : va_S A H0 H locs) (q0 t0 : Nat) {cA : ClassId} {n : Nat} {f : Nat → Int32} (ha : ws[q0]? = some (a, .inl (cA, n, .inl f))) (ht : tys[t0]? = some (cA, .int)) {j : Nat} {x : Int32} (hj : j < n) (hn : n < 2 ^ 31) (hdg : decode cc pc = .ok (.iastore, 1))
    (kk : ∀ (H1 : Heap) (locs1 : List Loc), va_P D cl (ws.set q0 (a, .inl (cA, n, .inl (upd f j x)))) H1 → va_D A (ws.set q0 (a, .inl (cA, n, .inl (upd f j x)))) → va_S A H0 H1 locs1 → W p l e R s m args below meth c H1 locs1 cells slots Q (F0 m (pc + 1) ls rest)) : W p l e R s m args below meth c H locs cells slots Q (F0 m pc ls (.int x :: .int (nI j) :: .ref a :: rest)) := by
  refine va_iast hexec hb hK hP hD hS q0 t0 ha ht (vp_in_nI hj hn) hdg (fun H1 locs1 h1 h2 h3 => ?_)
  rw [nI_clamp (show j < 2 ^ 31 by omega)] at h1 h2
  exact kk H1 locs1 h1 h2 h3
theorem k_zast (hexec : p.tables.exec = Jvm.exec) (hb : c.code = cc) (hK : va_K D cl tys s) (hP : va_P D cl ws H) (hD : va_D A ws) (hS : va_S A H0 H locs) (q0 t0 : Nat) {cA : ClassId} {n : Nat} {f : Nat → Int32} (ha : ws[q0]? = some (a, .inl (cA, n, .inl f))) (ht : tys[t0]? = some (cA, .boolean)) {j : Nat} {x : Int32} (hj : j < n) (hn : n < 2 ^ 31) (hx : vp_nar .boolean x = x) (hdg : decode cc pc = .ok (.bastore, 1))
    (kk : ∀ (H1 : Heap) (locs1 : List Loc), va_P D cl (ws.set q0 (a, .inl (cA, n, .inl (upd f j x)))) H1 → va_D A (ws.set q0 (a, .inl (cA, n, .inl (upd f j x)))) → va_S A H0 H1 locs1 → W p l e R s m args below meth c H1 locs1 cells slots Q (F0 m (pc + 1) ls rest)) : W p l e R s m args below meth c H locs cells slots Q (F0 m pc ls (.int x :: .int (nI j) :: .ref a :: rest)) := by
  refine va_zast hexec hb hK hP hD hS q0 t0 ha ht (vp_in_nI hj hn) hdg (fun H1 locs1 h1 h2 h3 => ?_)
  rw [nI_clamp (show j < 2 ^ 31 by omega), hx] at h1 h2
  exact kk H1 locs1 h1 h2 h3
theorem k_dast (hexec : p.tables.exec = Jvm.exec) (hb : c.code = cc) (hK : va_K D cl tys s) (hP : va_P D cl ws H) (hD : va_D A ws) (hS : va_S A H0 H locs) (q0 t0 : Nat) {cA : ClassId} {n : Nat} {f : Nat → UInt64} (ha : ws[q0]? = some (a, .inl (cA, n, .inr (.inr (.inr (.inl f)))))) (ht : tys[t0]? = some (cA, .double)) {j : Nat} {x : UInt64} (hj : j < n) (hn : n < 2 ^ 31) (hdg : decode cc pc = .ok (.dastore, 1))
    (kk : ∀ (H1 : Heap) (locs1 : List Loc), va_P D cl (ws.set q0 (a, .inl (cA, n, .inr (.inr (.inr (.inl (vf_upd f j x))))))) H1 → va_D A (ws.set q0 (a, .inl (cA, n, .inr (.inr (.inr (.inl (vf_upd f j x))))))) → va_S A H0 H1 locs1 → W p l e R s m args below meth c H1 locs1 cells slots Q (F0 m (pc + 1) ls rest)) : W p l e R s m args below meth c H locs cells slots Q (F0 m pc ls (.double x :: .int (nI j) :: .ref a :: rest)) := by
  refine va_dast hexec hb hK hP hD hS q0 t0 ha ht (vp_in_nI hj hn) hdg (fun H1 locs1 h1 h2 h3 => ?_)
  rw [nI_clamp (show j < 2 ^ 31 by omega)] at h1 h2
  exact kk H1 locs1 h1 h2 h3
/-- a row out of an array of arrays -/
theorem k_aald (hexec : p.tables.exec = Jvm.exec) (hb : c.code = cc) (hK : va_K D cl tys s) (hP : va_P D cl ws H) (q0 t0 : Nat) {cA : ClassId} {ty : FieldType} {n : Nat} {f : Nat → Option Nat} (ha : ws[q0]? = some (a, .inl (cA, n, .inr (.inr (.inr (.inr f)))))) (ht : tys[t0]? = some (cA, .array ty)) {j y : Nat} (hj : j < n) (hn : n < 2 ^ 31) (hy : f j = some y) (hdg : decode cc pc = .ok (.aaload, 1))
    (kk : W p l e R s m args below meth c H locs cells slots Q (F0 m (pc + 1) ls (.ref y :: rest))) : W p l e R s m args below meth c H locs cells slots Q (F0 m pc ls (.int (nI j) :: .ref a :: rest)) := by
  have hc : (nI j).toNatClampNeg = j := nI_clamp (show j < 2 ^ 31 by omega)
  have hin := vp_in_nI hj hn
  exact W.aald (v := .ref y) (ty := .array ty) hexec hb (hP q0 _ ha) ((hK.2 t0 _ ht).1 n (fun j => va_rf (f j))) rfl (fun q => by cases q) (by show ¬ (nI j < 0 ∨ (arrV _ _ _).slots.size ≤ _); rw [arrV_size]; exact hin) (by show (arrV _ _ _).slots[_]? = _; rw [arrV_read _ _ (by rw [hc]; exact hj), hc]; show some (va_rf (f j)) = _; rw [hy]; rfl) rfl rfl hdg kk
end KR
/-- a method's start: its world w u, its tables' words, its size -/
def gP {S : Type} (D : va_G) (w : S → va_W) (tys : List (ClassId × FieldType)) (u : S) (sz : Nat) : State → Prop := fun U => U.heap.size = sz ∧ va_P D vwCl (w u) U.heap ∧ va_K D vwCl tys U ∧ va_D (fun _ => True) (w u)
/-- .. and its end -/
def gQ {S : Type} (D : va_G) (w : S → va_W) (tys : List (ClassId × FieldType)) (A : Nat → Prop) : S → State → Prop := fun u t => va_P D vwCl (w u) t.heap ∧ va_K D vwCl tys t ∧ va_D A (w u)
abbrev gMi {S : Type} (l : Launch) (y : MethodName) (ws : List Cond) (rm : Room) (D : va_G) (w : S → va_W) (tys : List (ClassId × FieldType)) (u : S) (sz : Nat) (av : List Value) (post : Int32 → S → Prop) : Prop := Met l y ws rm (va_Pc av (gP D w tys u sz)) (va_Qi post (gQ D w tys (va_A (w u) sz)) (va_A (w u) sz)) 0 0 (va_A (w u) sz)
abbrev gMd {S : Type} (l : Launch) (y : MethodName) (ws : List Cond) (rm : Room) (D : va_G) (w : S → va_W) (tys : List (ClassId × FieldType)) (u : S) (sz : Nat) (av : List Value) (post : UInt64 → S → Prop) : Prop := Met l y ws rm (va_Pc av (gP D w tys u sz)) (va_Qd post (gQ D w tys (va_A (w u) sz)) (va_A (w u) sz)) 0 0 (va_A (w u) sz)
abbrev gMv {S : Type} (l : Launch) (y : MethodName) (ws : List Cond) (rm : Room) (D : va_G) (w : S → va_W) (tys : List (ClassId × FieldType)) (u : S) (sz : Nat) (av : List Value) (post : S → Prop) : Prop := Met l y ws rm (va_Pc av (gP D w tys u sz)) (va_Qv post (gQ D w tys (va_A (w u) sz)) (va_A (w u) sz)) 0 0 (va_A (w u) sz)
theorem gP_blind {S : Type} {D : va_G} {w : S → va_W} {tys : List (ClassId × FieldType)} {u : S} {sz : Nat} {av : List Value} : FrameBlind (va_Pc av (gP D w tys u sz)) := by
  intro a U g mk q
  obtain ⟨q0, q1, qP, qK, qD⟩ := q
  exact ⟨q0, q1, qP, va_K.moved (u := U) (U := U.calling g mk a) (Vm.Alike.refl U.vm) qK, qD⟩
theorem va_free1 {A0 : Nat → Prop} {ws : va_W} {H0 H : Heap} {locs : List Loc} (hD : va_D A0 ws) (hS : va_S A0 H0 H locs) (hA : ∀ q, H0.size ≤ q → A0 q) : ∀ q, va_A ws H.size q → A0 q := by
  intro q h
  rcases h with ⟨k, e, hk⟩ | h
  · exact hD.2 k _ hk
  · exact hA q (Nat.le_trans hS.1 h)
section GC
variable {p : Program} {l : Launch} {e : Env} {R : Room} {s : State} {m : MethodId} {args : Array Value} {below : List Frame} {meth : Method} {c : Code} {H : Heap} {locs : List Loc} {cells slots : Nat} {Q : State → Prop}
variable {cc : ByteArray} {pc nL n index maxL : Nat} {ls : Array Slot} {rest st0 As : List Value} {D : va_G} {A : Nat → Prop} {tys : List (ClassId × FieldType)} {H0 : Heap} {y : MethodName} {bytes : ByteArray} {ret : Option FieldType} {ws Ts : List Cond} {rm : Room} {own C : String} {b ci : Nat} {fs : List Value} {q : vw_C}
theorem g_calli {S : Type} {w : S → va_W} {u : S} {post : Int32 → S → Prop} (hF : CallFix p m c cc nL s args Ts own) (hM : gMi l y ws rm D w tys u H.size (.ref b :: As) post) (cw : CallW R s args own C index y bytes maxL ret ws rm 0 0 n)
    (hK : va_K D vwCl tys s) (hP : va_P D vwCl (w u) H) (hD : va_D A (w u)) (hS : va_S A H0 H locs) (hA : ∀ q, H0.size ≤ q → A q) (hci : vwCl[ci]? = some q) (hq : q.1 = C) (h0 : (w u)[0]? = some (b, .inr (ci, fs))) (hn : As.length = n) (hsz : ls.size = nL) (hst : st0 = As.reverse ++ .ref b :: rest) (hW : (rest.map fun v => v.category).sum ≤ 8) (hdg : decode cc pc = .ok (.invokevirtual index, 3)) (hf : cells ≤ R.cells ∧ slots ≤ R.slots)
    (kk : ∀ (r : Int32) (u' : S) (H1 : Heap) (locs1 : List Loc), post r u' → va_P D vwCl (w u') H1 → va_D A (w u') → va_S A H0 H1 locs1 → W p l e R s m args below meth c H1 locs1 cells slots Q (F0 m (pc + 3) ls (.int r :: rest))) : W p l e R s m args below meth c H locs cells slots Q (F0 m pc ls st0) := by
  have hFc := va_free1 hD hS hA
  subst hq
  refine va_calli (va_runV (b := b) (As := As) (rest := rest) hF hM cw ⟨gP_blind, va_recv hK hP hci h0, fun U hU hWr => ⟨rfl, by rw [hU], by rw [hU]; exact hP, va_K.moved hWr.alike hK, hD.weaken (fun _ _ _ _ => trivial)⟩⟩ rfl hn hsz hst (lv_room hW) hdg hf) hS (fun q _ h => hFc q h) hFc (fun r u' t H1 locs1 ht hvm hw hB hz1 hk1 hS1 => ?_)
  obtain ⟨hP1, hK1, hD1⟩ := hB
  rw [ht] at hP1
  exact kk r u' H1 locs1 hw hP1 (hD1.weaken (fun k z _ hz => hFc _ hz)) hS1
theorem g_calld {S : Type} {w : S → va_W} {u : S} {post : UInt64 → S → Prop} (hF : CallFix p m c cc nL s args Ts own) (hM : gMd l y ws rm D w tys u H.size (.ref b :: As) post) (cw : CallW R s args own C index y bytes maxL ret ws rm 0 0 n)
    (hK : va_K D vwCl tys s) (hP : va_P D vwCl (w u) H) (hD : va_D A (w u)) (hS : va_S A H0 H locs) (hA : ∀ q, H0.size ≤ q → A q) (hci : vwCl[ci]? = some q) (hq : q.1 = C) (h0 : (w u)[0]? = some (b, .inr (ci, fs))) (hn : As.length = n) (hsz : ls.size = nL) (hst : st0 = As.reverse ++ .ref b :: rest) (hW : (rest.map fun v => v.category).sum ≤ 8) (hdg : decode cc pc = .ok (.invokevirtual index, 3)) (hf : cells ≤ R.cells ∧ slots ≤ R.slots)
    (kk : ∀ (r : UInt64) (u' : S) (H1 : Heap) (locs1 : List Loc), post r u' → va_P D vwCl (w u') H1 → va_D A (w u') → va_S A H0 H1 locs1 → W p l e R s m args below meth c H1 locs1 cells slots Q (F0 m (pc + 3) ls (.double r :: rest))) : W p l e R s m args below meth c H locs cells slots Q (F0 m pc ls st0) := by
  have hFc := va_free1 hD hS hA
  subst hq
  refine va_calld (va_runV (b := b) (As := As) (rest := rest) hF hM cw ⟨gP_blind, va_recv hK hP hci h0, fun U hU hWr => ⟨rfl, by rw [hU], by rw [hU]; exact hP, va_K.moved hWr.alike hK, hD.weaken (fun _ _ _ _ => trivial)⟩⟩ rfl hn hsz hst (lv_room hW) hdg hf) hS (fun q _ h => hFc q h) hFc (fun r u' t H1 locs1 ht hvm hw hB hz1 hk1 hS1 => ?_)
  obtain ⟨hP1, hK1, hD1⟩ := hB
  rw [ht] at hP1
  exact kk r u' H1 locs1 hw hP1 (hD1.weaken (fun k z _ hz => hFc _ hz)) hS1
theorem g_callv {S : Type} {w : S → va_W} {u : S} {post : S → Prop} (hF : CallFix p m c cc nL s args Ts own) (hM : gMv l y ws rm D w tys u H.size (.ref b :: As) post) (cw : CallW R s args own C index y bytes maxL ret ws rm 0 0 n)
    (hK : va_K D vwCl tys s) (hP : va_P D vwCl (w u) H) (hD : va_D A (w u)) (hS : va_S A H0 H locs) (hA : ∀ q, H0.size ≤ q → A q) (hci : vwCl[ci]? = some q) (hq : q.1 = C) (h0 : (w u)[0]? = some (b, .inr (ci, fs))) (hn : As.length = n) (hsz : ls.size = nL) (hst : st0 = As.reverse ++ .ref b :: rest) (hW : (rest.map fun v => v.category).sum ≤ 8) (hdg : decode cc pc = .ok (.invokevirtual index, 3)) (hf : cells ≤ R.cells ∧ slots ≤ R.slots)
    (kk : ∀ (u' : S) (H1 : Heap) (locs1 : List Loc), post u' → va_P D vwCl (w u') H1 → va_D A (w u') → va_S A H0 H1 locs1 → W p l e R s m args below meth c H1 locs1 cells slots Q (F0 m (pc + 3) ls rest)) : W p l e R s m args below meth c H locs cells slots Q (F0 m pc ls st0) := by
  have hFc := va_free1 hD hS hA
  subst hq
  refine va_callv (va_runV (b := b) (As := As) (rest := rest) hF hM cw ⟨gP_blind, va_recv hK hP hci h0, fun U hU hWr => ⟨rfl, by rw [hU], by rw [hU]; exact hP, va_K.moved hWr.alike hK, hD.weaken (fun _ _ _ _ => trivial)⟩⟩ rfl hn hsz hst (lv_room hW) hdg hf) hS (fun q _ h => hFc q h) hFc (fun u' t H1 locs1 ht hvm hw hB hz1 hk1 hS1 => ?_)
  obtain ⟨hP1, hK1, hD1⟩ := hB
  rw [ht] at hP1
  exact kk u' H1 locs1 hw hP1 (hD1.weaken (fun k z _ hz => hFc _ hz)) hS1
end GC
theorem g_ofi {S : Type} {l : Launch} {y : MethodName} {ws ws' : List Cond} {rm : Room} {D : va_G} {w : S → va_W} {tys : List (ClassId × FieldType)} {u : S} {sz : Nat} {av : List Value} {post : Int32 → S → Prop} {cc : ByteArray} {maxL : Nat} {ret : Option FieldType} {own : String} (hy : plainName y.cls = true) (hyc : y.cls = own) (hw : ws = Cond.code y cc maxL ret :: ws')
    (body : ∀ (p : Program) (e : Env) (s : State) (m : MethodId) (below : List Frame) (meth : Method) (c : Code) (A : Nat → Prop), p.tables.exec = Jvm.exec → c.code = cc → meth.sig.returnType = ret → meth.locks = false → c.maxLocals = maxL → (∀ w ∈ ws, w.before av.toArray s = true) → s.vm.findClass own = some m.cls → va_K D vwCl tys s → va_D A (w u) → (∀ q : Nat, s.heap.size ≤ q → A q) → ∀ (H : Heap) (locs : List Loc), va_P D vwCl (w u) H → va_S A s.heap H locs →
      W p l e (headSpec ws rm).room s m av.toArray below meth c H locs 0 0 (MQ below (va_Qi post (gQ D w tys A) A) av.toArray s 0 0 A) (entryFrame m av.toArray maxL)) : gMi l y ws rm D w tys u sz av post := by
  refine Met.ofW (cc := cc) (maxL := maxL) (ret := ret) hy hw ?_
  intro p e s m args below meth c s₁ B hml hv
  obtain ⟨rfl, hsz, hP, hK, hD0⟩ := hv
  subst hsz
  have hts := atoms_spec (ws := ws) B.pre
  have hown : s.vm.findClass own = some m.cls := hyc ▸ findClass_of_methodNamed B.named
  have hD := hD0.self (sz := s.heap.size)
  exact body p e s m below meth c (va_A (w u) s.heap.size) B.exec B.bytes B.returns B.notSynchronized hml hts hown hK hD (fun q h => Or.inr h) s.heap [] hP va_S.rf
theorem g_ofd {S : Type} {l : Launch} {y : MethodName} {ws ws' : List Cond} {rm : Room} {D : va_G} {w : S → va_W} {tys : List (ClassId × FieldType)} {u : S} {sz : Nat} {av : List Value} {post : UInt64 → S → Prop} {cc : ByteArray} {maxL : Nat} {ret : Option FieldType} {own : String} (hy : plainName y.cls = true) (hyc : y.cls = own) (hw : ws = Cond.code y cc maxL ret :: ws')
    (body : ∀ (p : Program) (e : Env) (s : State) (m : MethodId) (below : List Frame) (meth : Method) (c : Code) (A : Nat → Prop), p.tables.exec = Jvm.exec → c.code = cc → meth.sig.returnType = ret → meth.locks = false → c.maxLocals = maxL → (∀ w ∈ ws, w.before av.toArray s = true) → s.vm.findClass own = some m.cls → va_K D vwCl tys s → va_D A (w u) → (∀ q : Nat, s.heap.size ≤ q → A q) → ∀ (H : Heap) (locs : List Loc), va_P D vwCl (w u) H → va_S A s.heap H locs →
      W p l e (headSpec ws rm).room s m av.toArray below meth c H locs 0 0 (MQ below (va_Qd post (gQ D w tys A) A) av.toArray s 0 0 A) (entryFrame m av.toArray maxL)) : gMd l y ws rm D w tys u sz av post := by
  refine Met.ofW (cc := cc) (maxL := maxL) (ret := ret) hy hw ?_
  intro p e s m args below meth c s₁ B hml hv
  obtain ⟨rfl, hsz, hP, hK, hD0⟩ := hv
  subst hsz
  have hts := atoms_spec (ws := ws) B.pre
  have hown : s.vm.findClass own = some m.cls := hyc ▸ findClass_of_methodNamed B.named
  have hD := hD0.self (sz := s.heap.size)
  exact body p e s m below meth c (va_A (w u) s.heap.size) B.exec B.bytes B.returns B.notSynchronized hml hts hown hK hD (fun q h => Or.inr h) s.heap [] hP va_S.rf
theorem g_ofv {S : Type} {l : Launch} {y : MethodName} {ws ws' : List Cond} {rm : Room} {D : va_G} {w : S → va_W} {tys : List (ClassId × FieldType)} {u : S} {sz : Nat} {av : List Value} {post : S → Prop} {cc : ByteArray} {maxL : Nat} {ret : Option FieldType} {own : String} (hy : plainName y.cls = true) (hyc : y.cls = own) (hw : ws = Cond.code y cc maxL ret :: ws')
    (body : ∀ (p : Program) (e : Env) (s : State) (m : MethodId) (below : List Frame) (meth : Method) (c : Code) (A : Nat → Prop), p.tables.exec = Jvm.exec → c.code = cc → meth.sig.returnType = ret → meth.locks = false → c.maxLocals = maxL → (∀ w ∈ ws, w.before av.toArray s = true) → s.vm.findClass own = some m.cls → va_K D vwCl tys s → va_D A (w u) → (∀ q : Nat, s.heap.size ≤ q → A q) → ∀ (H : Heap) (locs : List Loc), va_P D vwCl (w u) H → va_S A s.heap H locs →
      W p l e (headSpec ws rm).room s m av.toArray below meth c H locs 0 0 (MQ below (va_Qv post (gQ D w tys A) A) av.toArray s 0 0 A) (entryFrame m av.toArray maxL)) : gMv l y ws rm D w tys u sz av post := by
  refine Met.ofW (cc := cc) (maxL := maxL) (ret := ret) hy hw ?_
  intro p e s m args below meth c s₁ B hml hv
  obtain ⟨rfl, hsz, hP, hK, hD0⟩ := hv
  subst hsz
  have hts := atoms_spec (ws := ws) B.pre
  have hown : s.vm.findClass own = some m.cls := hyc ▸ findClass_of_methodNamed B.named
  have hD := hD0.self (sz := s.heap.size)
  exact body p e s m below meth c (va_A (w u) s.heap.size) B.exec B.bytes B.returns B.notSynchronized hml hts hown hK hD (fun q h => Or.inr h) s.heap [] hP va_S.rf
end
section
/-! THE STATES: what the cells of a StepGraph (CS) and of a StepGraphModel (MS) hold, and the worlds that hold it. -/
abbrev CS : Type := Int32 × Int32 × Int32 × Int32 × Int32 × Int32 × Int32 × Int32 × Int32 × Int32 × (Nat → Int32) × (Nat → Int32) × (Nat → UInt64) × (Nat → UInt64) × (Nat → Int32) × (Nat → Nat → UInt64)
def c_n (u : CS) : Int32 := u.1
def c_e (u : CS) : Int32 := u.2.1
def c_k (u : CS) : Int32 := u.2.2.1
def c_ru (u : CS) : Int32 := u.2.2.2.1
def c_pr (u : CS) : Int32 := u.2.2.2.2.1
def c_wc (u : CS) : Int32 := u.2.2.2.2.2.1
def c_sc (u : CS) : Int32 := u.2.2.2.2.2.2.1
def c_se (u : CS) : Int32 := u.2.2.2.2.2.2.2.1
def c_de (u : CS) : Int32 := u.2.2.2.2.2.2.2.2.1
def c_cr (u : CS) : Int32 := u.2.2.2.2.2.2.2.2.2.1
def c_fe (u : CS) : (Nat → Int32) := u.2.2.2.2.2.2.2.2.2.2.1
def c_sd (u : CS) : (Nat → Int32) := u.2.2.2.2.2.2.2.2.2.2.2.1
def c_wt (u : CS) : (Nat → UInt64) := u.2.2.2.2.2.2.2.2.2.2.2.2.1
def c_va (u : CS) : (Nat → UInt64) := u.2.2.2.2.2.2.2.2.2.2.2.2.2.1
def c_sn (u : CS) : (Nat → Int32) := u.2.2.2.2.2.2.2.2.2.2.2.2.2.2.1
def c_wa (u : CS) : (Nat → Nat → UInt64) := u.2.2.2.2.2.2.2.2.2.2.2.2.2.2.2
def cs_n (u : CS) (x : Int32) : CS := (x, u.2.1, u.2.2.1, u.2.2.2.1, u.2.2.2.2.1, u.2.2.2.2.2.1, u.2.2.2.2.2.2.1, u.2.2.2.2.2.2.2.1, u.2.2.2.2.2.2.2.2.1, u.2.2.2.2.2.2.2.2.2.1, u.2.2.2.2.2.2.2.2.2.2.1, u.2.2.2.2.2.2.2.2.2.2.2.1, u.2.2.2.2.2.2.2.2.2.2.2.2.1, u.2.2.2.2.2.2.2.2.2.2.2.2.2.1, u.2.2.2.2.2.2.2.2.2.2.2.2.2.2.1, u.2.2.2.2.2.2.2.2.2.2.2.2.2.2.2)
def cs_e (u : CS) (x : Int32) : CS := (u.1, x, u.2.2.1, u.2.2.2.1, u.2.2.2.2.1, u.2.2.2.2.2.1, u.2.2.2.2.2.2.1, u.2.2.2.2.2.2.2.1, u.2.2.2.2.2.2.2.2.1, u.2.2.2.2.2.2.2.2.2.1, u.2.2.2.2.2.2.2.2.2.2.1, u.2.2.2.2.2.2.2.2.2.2.2.1, u.2.2.2.2.2.2.2.2.2.2.2.2.1, u.2.2.2.2.2.2.2.2.2.2.2.2.2.1, u.2.2.2.2.2.2.2.2.2.2.2.2.2.2.1, u.2.2.2.2.2.2.2.2.2.2.2.2.2.2.2)
def cs_k (u : CS) (x : Int32) : CS := (u.1, u.2.1, x, u.2.2.2.1, u.2.2.2.2.1, u.2.2.2.2.2.1, u.2.2.2.2.2.2.1, u.2.2.2.2.2.2.2.1, u.2.2.2.2.2.2.2.2.1, u.2.2.2.2.2.2.2.2.2.1, u.2.2.2.2.2.2.2.2.2.2.1, u.2.2.2.2.2.2.2.2.2.2.2.1, u.2.2.2.2.2.2.2.2.2.2.2.2.1, u.2.2.2.2.2.2.2.2.2.2.2.2.2.1, u.2.2.2.2.2.2.2.2.2.2.2.2.2.2.1, u.2.2.2.2.2.2.2.2.2.2.2.2.2.2.2)
def cs_ru (u : CS) (x : Int32) : CS := (u.1, u.2.1, u.2.2.1, x, u.2.2.2.2.1, u.2.2.2.2.2.1, u.2.2.2.2.2.2.1, u.2.2.2.2.2.2.2.1, u.2.2.2.2.2.2.2.2.1, u.2.2.2.2.2.2.2.2.2.1, u.2.2.2.2.2.2.2.2.2.2.1, u.2.2.2.2.2.2.2.2.2.2.2.1, u.2.2.2.2.2.2.2.2.2.2.2.2.1, u.2.2.2.2.2.2.2.2.2.2.2.2.2.1, u.2.2.2.2.2.2.2.2.2.2.2.2.2.2.1, u.2.2.2.2.2.2.2.2.2.2.2.2.2.2.2)
def cs_pr (u : CS) (x : Int32) : CS := (u.1, u.2.1, u.2.2.1, u.2.2.2.1, x, u.2.2.2.2.2.1, u.2.2.2.2.2.2.1, u.2.2.2.2.2.2.2.1, u.2.2.2.2.2.2.2.2.1, u.2.2.2.2.2.2.2.2.2.1, u.2.2.2.2.2.2.2.2.2.2.1, u.2.2.2.2.2.2.2.2.2.2.2.1, u.2.2.2.2.2.2.2.2.2.2.2.2.1, u.2.2.2.2.2.2.2.2.2.2.2.2.2.1, u.2.2.2.2.2.2.2.2.2.2.2.2.2.2.1, u.2.2.2.2.2.2.2.2.2.2.2.2.2.2.2)
def cs_wc (u : CS) (x : Int32) : CS := (u.1, u.2.1, u.2.2.1, u.2.2.2.1, u.2.2.2.2.1, x, u.2.2.2.2.2.2.1, u.2.2.2.2.2.2.2.1, u.2.2.2.2.2.2.2.2.1, u.2.2.2.2.2.2.2.2.2.1, u.2.2.2.2.2.2.2.2.2.2.1, u.2.2.2.2.2.2.2.2.2.2.2.1, u.2.2.2.2.2.2.2.2.2.2.2.2.1, u.2.2.2.2.2.2.2.2.2.2.2.2.2.1, u.2.2.2.2.2.2.2.2.2.2.2.2.2.2.1, u.2.2.2.2.2.2.2.2.2.2.2.2.2.2.2)
def cs_sc (u : CS) (x : Int32) : CS := (u.1, u.2.1, u.2.2.1, u.2.2.2.1, u.2.2.2.2.1, u.2.2.2.2.2.1, x, u.2.2.2.2.2.2.2.1, u.2.2.2.2.2.2.2.2.1, u.2.2.2.2.2.2.2.2.2.1, u.2.2.2.2.2.2.2.2.2.2.1, u.2.2.2.2.2.2.2.2.2.2.2.1, u.2.2.2.2.2.2.2.2.2.2.2.2.1, u.2.2.2.2.2.2.2.2.2.2.2.2.2.1, u.2.2.2.2.2.2.2.2.2.2.2.2.2.2.1, u.2.2.2.2.2.2.2.2.2.2.2.2.2.2.2)
def cs_se (u : CS) (x : Int32) : CS := (u.1, u.2.1, u.2.2.1, u.2.2.2.1, u.2.2.2.2.1, u.2.2.2.2.2.1, u.2.2.2.2.2.2.1, x, u.2.2.2.2.2.2.2.2.1, u.2.2.2.2.2.2.2.2.2.1, u.2.2.2.2.2.2.2.2.2.2.1, u.2.2.2.2.2.2.2.2.2.2.2.1, u.2.2.2.2.2.2.2.2.2.2.2.2.1, u.2.2.2.2.2.2.2.2.2.2.2.2.2.1, u.2.2.2.2.2.2.2.2.2.2.2.2.2.2.1, u.2.2.2.2.2.2.2.2.2.2.2.2.2.2.2)
def cs_de (u : CS) (x : Int32) : CS := (u.1, u.2.1, u.2.2.1, u.2.2.2.1, u.2.2.2.2.1, u.2.2.2.2.2.1, u.2.2.2.2.2.2.1, u.2.2.2.2.2.2.2.1, x, u.2.2.2.2.2.2.2.2.2.1, u.2.2.2.2.2.2.2.2.2.2.1, u.2.2.2.2.2.2.2.2.2.2.2.1, u.2.2.2.2.2.2.2.2.2.2.2.2.1, u.2.2.2.2.2.2.2.2.2.2.2.2.2.1, u.2.2.2.2.2.2.2.2.2.2.2.2.2.2.1, u.2.2.2.2.2.2.2.2.2.2.2.2.2.2.2)
def cs_cr (u : CS) (x : Int32) : CS := (u.1, u.2.1, u.2.2.1, u.2.2.2.1, u.2.2.2.2.1, u.2.2.2.2.2.1, u.2.2.2.2.2.2.1, u.2.2.2.2.2.2.2.1, u.2.2.2.2.2.2.2.2.1, x, u.2.2.2.2.2.2.2.2.2.2.1, u.2.2.2.2.2.2.2.2.2.2.2.1, u.2.2.2.2.2.2.2.2.2.2.2.2.1, u.2.2.2.2.2.2.2.2.2.2.2.2.2.1, u.2.2.2.2.2.2.2.2.2.2.2.2.2.2.1, u.2.2.2.2.2.2.2.2.2.2.2.2.2.2.2)
def cs_fe (u : CS) (x : (Nat → Int32)) : CS := (u.1, u.2.1, u.2.2.1, u.2.2.2.1, u.2.2.2.2.1, u.2.2.2.2.2.1, u.2.2.2.2.2.2.1, u.2.2.2.2.2.2.2.1, u.2.2.2.2.2.2.2.2.1, u.2.2.2.2.2.2.2.2.2.1, x, u.2.2.2.2.2.2.2.2.2.2.2.1, u.2.2.2.2.2.2.2.2.2.2.2.2.1, u.2.2.2.2.2.2.2.2.2.2.2.2.2.1, u.2.2.2.2.2.2.2.2.2.2.2.2.2.2.1, u.2.2.2.2.2.2.2.2.2.2.2.2.2.2.2)
def cs_sd (u : CS) (x : (Nat → Int32)) : CS := (u.1, u.2.1, u.2.2.1, u.2.2.2.1, u.2.2.2.2.1, u.2.2.2.2.2.1, u.2.2.2.2.2.2.1, u.2.2.2.2.2.2.2.1, u.2.2.2.2.2.2.2.2.1, u.2.2.2.2.2.2.2.2.2.1, u.2.2.2.2.2.2.2.2.2.2.1, x, u.2.2.2.2.2.2.2.2.2.2.2.2.1, u.2.2.2.2.2.2.2.2.2.2.2.2.2.1, u.2.2.2.2.2.2.2.2.2.2.2.2.2.2.1, u.2.2.2.2.2.2.2.2.2.2.2.2.2.2.2)
def cs_wt (u : CS) (x : (Nat → UInt64)) : CS := (u.1, u.2.1, u.2.2.1, u.2.2.2.1, u.2.2.2.2.1, u.2.2.2.2.2.1, u.2.2.2.2.2.2.1, u.2.2.2.2.2.2.2.1, u.2.2.2.2.2.2.2.2.1, u.2.2.2.2.2.2.2.2.2.1, u.2.2.2.2.2.2.2.2.2.2.1, u.2.2.2.2.2.2.2.2.2.2.2.1, x, u.2.2.2.2.2.2.2.2.2.2.2.2.2.1, u.2.2.2.2.2.2.2.2.2.2.2.2.2.2.1, u.2.2.2.2.2.2.2.2.2.2.2.2.2.2.2)
def cs_va (u : CS) (x : (Nat → UInt64)) : CS := (u.1, u.2.1, u.2.2.1, u.2.2.2.1, u.2.2.2.2.1, u.2.2.2.2.2.1, u.2.2.2.2.2.2.1, u.2.2.2.2.2.2.2.1, u.2.2.2.2.2.2.2.2.1, u.2.2.2.2.2.2.2.2.2.1, u.2.2.2.2.2.2.2.2.2.2.1, u.2.2.2.2.2.2.2.2.2.2.2.1, u.2.2.2.2.2.2.2.2.2.2.2.2.1, x, u.2.2.2.2.2.2.2.2.2.2.2.2.2.2.1, u.2.2.2.2.2.2.2.2.2.2.2.2.2.2.2)
def cs_sn (u : CS) (x : (Nat → Int32)) : CS := (u.1, u.2.1, u.2.2.1, u.2.2.2.1, u.2.2.2.2.1, u.2.2.2.2.2.1, u.2.2.2.2.2.2.1, u.2.2.2.2.2.2.2.1, u.2.2.2.2.2.2.2.2.1, u.2.2.2.2.2.2.2.2.2.1, u.2.2.2.2.2.2.2.2.2.2.1, u.2.2.2.2.2.2.2.2.2.2.2.1, u.2.2.2.2.2.2.2.2.2.2.2.2.1, u.2.2.2.2.2.2.2.2.2.2.2.2.2.1, x, u.2.2.2.2.2.2.2.2.2.2.2.2.2.2.2)
def cs_wa (u : CS) (x : (Nat → Nat → UInt64)) : CS := (u.1, u.2.1, u.2.2.1, u.2.2.2.1, u.2.2.2.2.1, u.2.2.2.2.2.1, u.2.2.2.2.2.2.1, u.2.2.2.2.2.2.2.1, u.2.2.2.2.2.2.2.2.1, u.2.2.2.2.2.2.2.2.2.1, u.2.2.2.2.2.2.2.2.2.2.1, u.2.2.2.2.2.2.2.2.2.2.2.1, u.2.2.2.2.2.2.2.2.2.2.2.2.1, u.2.2.2.2.2.2.2.2.2.2.2.2.2.1, u.2.2.2.2.2.2.2.2.2.2.2.2.2.2.1, x)
abbrev MS : Type := Int32 × Int32 × Int32 × Int32 × Int32 × Int32 × Int32 × Int32 × Int32 × Int32 × (Nat → Int32) × (Nat → Int32) × (Nat → UInt64) × (Nat → UInt64) × (Nat → Int32) × (Nat → UInt64) × (Nat → Int32) × (Nat → UInt64) × (Nat → Int32) × (Nat → Int32)
def m_n (u : MS) : Int32 := u.1
def m_e (u : MS) : Int32 := u.2.1
def m_k (u : MS) : Int32 := u.2.2.1
def m_bg (u : MS) : Int32 := u.2.2.2.1
def m_pr (u : MS) : Int32 := u.2.2.2.2.1
def m_st (u : MS) : Int32 := u.2.2.2.2.2.1
def m_se (u : MS) : Int32 := u.2.2.2.2.2.2.1
def m_de (u : MS) : Int32 := u.2.2.2.2.2.2.2.1
def m_cr (u : MS) : Int32 := u.2.2.2.2.2.2.2.2.1
def m_th (u : MS) : Int32 := u.2.2.2.2.2.2.2.2.2.1
def m_fr (u : MS) : (Nat → Int32) := u.2.2.2.2.2.2.2.2.2.2.1
def m_to (u : MS) : (Nat → Int32) := u.2.2.2.2.2.2.2.2.2.2.2.1
def m_wt (u : MS) : (Nat → UInt64) := u.2.2.2.2.2.2.2.2.2.2.2.2.1
def m_va (u : MS) : (Nat → UInt64) := u.2.2.2.2.2.2.2.2.2.2.2.2.2.1
def m_kn (u : MS) : (Nat → Int32) := u.2.2.2.2.2.2.2.2.2.2.2.2.2.2.1
def m_cm (u : MS) : (Nat → UInt64) := u.2.2.2.2.2.2.2.2.2.2.2.2.2.2.2.1
def m_cs (u : MS) : (Nat → Int32) := u.2.2.2.2.2.2.2.2.2.2.2.2.2.2.2.2.1
def m_gn (u : MS) : (Nat → UInt64) := u.2.2.2.2.2.2.2.2.2.2.2.2.2.2.2.2.2.1
def m_gs (u : MS) : (Nat → Int32) := u.2.2.2.2.2.2.2.2.2.2.2.2.2.2.2.2.2.2.1
def m_sp (u : MS) : (Nat → Int32) := u.2.2.2.2.2.2.2.2.2.2.2.2.2.2.2.2.2.2.2
def ms_n (u : MS) (x : Int32) : MS := (x, u.2.1, u.2.2.1, u.2.2.2.1, u.2.2.2.2.1, u.2.2.2.2.2.1, u.2.2.2.2.2.2.1, u.2.2.2.2.2.2.2.1, u.2.2.2.2.2.2.2.2.1, u.2.2.2.2.2.2.2.2.2.1, u.2.2.2.2.2.2.2.2.2.2.1, u.2.2.2.2.2.2.2.2.2.2.2.1, u.2.2.2.2.2.2.2.2.2.2.2.2.1, u.2.2.2.2.2.2.2.2.2.2.2.2.2.1, u.2.2.2.2.2.2.2.2.2.2.2.2.2.2.1, u.2.2.2.2.2.2.2.2.2.2.2.2.2.2.2.1, u.2.2.2.2.2.2.2.2.2.2.2.2.2.2.2.2.1, u.2.2.2.2.2.2.2.2.2.2.2.2.2.2.2.2.2.1, u.2.2.2.2.2.2.2.2.2.2.2.2.2.2.2.2.2.2.1, u.2.2.2.2.2.2.2.2.2.2.2.2.2.2.2.2.2.2.2)
def ms_e (u : MS) (x : Int32) : MS := (u.1, x, u.2.2.1, u.2.2.2.1, u.2.2.2.2.1, u.2.2.2.2.2.1, u.2.2.2.2.2.2.1, u.2.2.2.2.2.2.2.1, u.2.2.2.2.2.2.2.2.1, u.2.2.2.2.2.2.2.2.2.1, u.2.2.2.2.2.2.2.2.2.2.1, u.2.2.2.2.2.2.2.2.2.2.2.1, u.2.2.2.2.2.2.2.2.2.2.2.2.1, u.2.2.2.2.2.2.2.2.2.2.2.2.2.1, u.2.2.2.2.2.2.2.2.2.2.2.2.2.2.1, u.2.2.2.2.2.2.2.2.2.2.2.2.2.2.2.1, u.2.2.2.2.2.2.2.2.2.2.2.2.2.2.2.2.1, u.2.2.2.2.2.2.2.2.2.2.2.2.2.2.2.2.2.1, u.2.2.2.2.2.2.2.2.2.2.2.2.2.2.2.2.2.2.1, u.2.2.2.2.2.2.2.2.2.2.2.2.2.2.2.2.2.2.2)
def ms_k (u : MS) (x : Int32) : MS := (u.1, u.2.1, x, u.2.2.2.1, u.2.2.2.2.1, u.2.2.2.2.2.1, u.2.2.2.2.2.2.1, u.2.2.2.2.2.2.2.1, u.2.2.2.2.2.2.2.2.1, u.2.2.2.2.2.2.2.2.2.1, u.2.2.2.2.2.2.2.2.2.2.1, u.2.2.2.2.2.2.2.2.2.2.2.1, u.2.2.2.2.2.2.2.2.2.2.2.2.1, u.2.2.2.2.2.2.2.2.2.2.2.2.2.1, u.2.2.2.2.2.2.2.2.2.2.2.2.2.2.1, u.2.2.2.2.2.2.2.2.2.2.2.2.2.2.2.1, u.2.2.2.2.2.2.2.2.2.2.2.2.2.2.2.2.1, u.2.2.2.2.2.2.2.2.2.2.2.2.2.2.2.2.2.1, u.2.2.2.2.2.2.2.2.2.2.2.2.2.2.2.2.2.2.1, u.2.2.2.2.2.2.2.2.2.2.2.2.2.2.2.2.2.2.2)
def ms_bg (u : MS) (x : Int32) : MS := (u.1, u.2.1, u.2.2.1, x, u.2.2.2.2.1, u.2.2.2.2.2.1, u.2.2.2.2.2.2.1, u.2.2.2.2.2.2.2.1, u.2.2.2.2.2.2.2.2.1, u.2.2.2.2.2.2.2.2.2.1, u.2.2.2.2.2.2.2.2.2.2.1, u.2.2.2.2.2.2.2.2.2.2.2.1, u.2.2.2.2.2.2.2.2.2.2.2.2.1, u.2.2.2.2.2.2.2.2.2.2.2.2.2.1, u.2.2.2.2.2.2.2.2.2.2.2.2.2.2.1, u.2.2.2.2.2.2.2.2.2.2.2.2.2.2.2.1, u.2.2.2.2.2.2.2.2.2.2.2.2.2.2.2.2.1, u.2.2.2.2.2.2.2.2.2.2.2.2.2.2.2.2.2.1, u.2.2.2.2.2.2.2.2.2.2.2.2.2.2.2.2.2.2.1, u.2.2.2.2.2.2.2.2.2.2.2.2.2.2.2.2.2.2.2)
def ms_pr (u : MS) (x : Int32) : MS := (u.1, u.2.1, u.2.2.1, u.2.2.2.1, x, u.2.2.2.2.2.1, u.2.2.2.2.2.2.1, u.2.2.2.2.2.2.2.1, u.2.2.2.2.2.2.2.2.1, u.2.2.2.2.2.2.2.2.2.1, u.2.2.2.2.2.2.2.2.2.2.1, u.2.2.2.2.2.2.2.2.2.2.2.1, u.2.2.2.2.2.2.2.2.2.2.2.2.1, u.2.2.2.2.2.2.2.2.2.2.2.2.2.1, u.2.2.2.2.2.2.2.2.2.2.2.2.2.2.1, u.2.2.2.2.2.2.2.2.2.2.2.2.2.2.2.1, u.2.2.2.2.2.2.2.2.2.2.2.2.2.2.2.2.1, u.2.2.2.2.2.2.2.2.2.2.2.2.2.2.2.2.2.1, u.2.2.2.2.2.2.2.2.2.2.2.2.2.2.2.2.2.2.1, u.2.2.2.2.2.2.2.2.2.2.2.2.2.2.2.2.2.2.2)
def ms_st (u : MS) (x : Int32) : MS := (u.1, u.2.1, u.2.2.1, u.2.2.2.1, u.2.2.2.2.1, x, u.2.2.2.2.2.2.1, u.2.2.2.2.2.2.2.1, u.2.2.2.2.2.2.2.2.1, u.2.2.2.2.2.2.2.2.2.1, u.2.2.2.2.2.2.2.2.2.2.1, u.2.2.2.2.2.2.2.2.2.2.2.1, u.2.2.2.2.2.2.2.2.2.2.2.2.1, u.2.2.2.2.2.2.2.2.2.2.2.2.2.1, u.2.2.2.2.2.2.2.2.2.2.2.2.2.2.1, u.2.2.2.2.2.2.2.2.2.2.2.2.2.2.2.1, u.2.2.2.2.2.2.2.2.2.2.2.2.2.2.2.2.1, u.2.2.2.2.2.2.2.2.2.2.2.2.2.2.2.2.2.1, u.2.2.2.2.2.2.2.2.2.2.2.2.2.2.2.2.2.2.1, u.2.2.2.2.2.2.2.2.2.2.2.2.2.2.2.2.2.2.2)
def ms_se (u : MS) (x : Int32) : MS := (u.1, u.2.1, u.2.2.1, u.2.2.2.1, u.2.2.2.2.1, u.2.2.2.2.2.1, x, u.2.2.2.2.2.2.2.1, u.2.2.2.2.2.2.2.2.1, u.2.2.2.2.2.2.2.2.2.1, u.2.2.2.2.2.2.2.2.2.2.1, u.2.2.2.2.2.2.2.2.2.2.2.1, u.2.2.2.2.2.2.2.2.2.2.2.2.1, u.2.2.2.2.2.2.2.2.2.2.2.2.2.1, u.2.2.2.2.2.2.2.2.2.2.2.2.2.2.1, u.2.2.2.2.2.2.2.2.2.2.2.2.2.2.2.1, u.2.2.2.2.2.2.2.2.2.2.2.2.2.2.2.2.1, u.2.2.2.2.2.2.2.2.2.2.2.2.2.2.2.2.2.1, u.2.2.2.2.2.2.2.2.2.2.2.2.2.2.2.2.2.2.1, u.2.2.2.2.2.2.2.2.2.2.2.2.2.2.2.2.2.2.2)
def ms_de (u : MS) (x : Int32) : MS := (u.1, u.2.1, u.2.2.1, u.2.2.2.1, u.2.2.2.2.1, u.2.2.2.2.2.1, u.2.2.2.2.2.2.1, x, u.2.2.2.2.2.2.2.2.1, u.2.2.2.2.2.2.2.2.2.1, u.2.2.2.2.2.2.2.2.2.2.1, u.2.2.2.2.2.2.2.2.2.2.2.1, u.2.2.2.2.2.2.2.2.2.2.2.2.1, u.2.2.2.2.2.2.2.2.2.2.2.2.2.1, u.2.2.2.2.2.2.2.2.2.2.2.2.2.2.1, u.2.2.2.2.2.2.2.2.2.2.2.2.2.2.2.1, u.2.2.2.2.2.2.2.2.2.2.2.2.2.2.2.2.1, u.2.2.2.2.2.2.2.2.2.2.2.2.2.2.2.2.2.1, u.2.2.2.2.2.2.2.2.2.2.2.2.2.2.2.2.2.2.1, u.2.2.2.2.2.2.2.2.2.2.2.2.2.2.2.2.2.2.2)
def ms_cr (u : MS) (x : Int32) : MS := (u.1, u.2.1, u.2.2.1, u.2.2.2.1, u.2.2.2.2.1, u.2.2.2.2.2.1, u.2.2.2.2.2.2.1, u.2.2.2.2.2.2.2.1, x, u.2.2.2.2.2.2.2.2.2.1, u.2.2.2.2.2.2.2.2.2.2.1, u.2.2.2.2.2.2.2.2.2.2.2.1, u.2.2.2.2.2.2.2.2.2.2.2.2.1, u.2.2.2.2.2.2.2.2.2.2.2.2.2.1, u.2.2.2.2.2.2.2.2.2.2.2.2.2.2.1, u.2.2.2.2.2.2.2.2.2.2.2.2.2.2.2.1, u.2.2.2.2.2.2.2.2.2.2.2.2.2.2.2.2.1, u.2.2.2.2.2.2.2.2.2.2.2.2.2.2.2.2.2.1, u.2.2.2.2.2.2.2.2.2.2.2.2.2.2.2.2.2.2.1, u.2.2.2.2.2.2.2.2.2.2.2.2.2.2.2.2.2.2.2)
def ms_th (u : MS) (x : Int32) : MS := (u.1, u.2.1, u.2.2.1, u.2.2.2.1, u.2.2.2.2.1, u.2.2.2.2.2.1, u.2.2.2.2.2.2.1, u.2.2.2.2.2.2.2.1, u.2.2.2.2.2.2.2.2.1, x, u.2.2.2.2.2.2.2.2.2.2.1, u.2.2.2.2.2.2.2.2.2.2.2.1, u.2.2.2.2.2.2.2.2.2.2.2.2.1, u.2.2.2.2.2.2.2.2.2.2.2.2.2.1, u.2.2.2.2.2.2.2.2.2.2.2.2.2.2.1, u.2.2.2.2.2.2.2.2.2.2.2.2.2.2.2.1, u.2.2.2.2.2.2.2.2.2.2.2.2.2.2.2.2.1, u.2.2.2.2.2.2.2.2.2.2.2.2.2.2.2.2.2.1, u.2.2.2.2.2.2.2.2.2.2.2.2.2.2.2.2.2.2.1, u.2.2.2.2.2.2.2.2.2.2.2.2.2.2.2.2.2.2.2)
def ms_fr (u : MS) (x : (Nat → Int32)) : MS := (u.1, u.2.1, u.2.2.1, u.2.2.2.1, u.2.2.2.2.1, u.2.2.2.2.2.1, u.2.2.2.2.2.2.1, u.2.2.2.2.2.2.2.1, u.2.2.2.2.2.2.2.2.1, u.2.2.2.2.2.2.2.2.2.1, x, u.2.2.2.2.2.2.2.2.2.2.2.1, u.2.2.2.2.2.2.2.2.2.2.2.2.1, u.2.2.2.2.2.2.2.2.2.2.2.2.2.1, u.2.2.2.2.2.2.2.2.2.2.2.2.2.2.1, u.2.2.2.2.2.2.2.2.2.2.2.2.2.2.2.1, u.2.2.2.2.2.2.2.2.2.2.2.2.2.2.2.2.1, u.2.2.2.2.2.2.2.2.2.2.2.2.2.2.2.2.2.1, u.2.2.2.2.2.2.2.2.2.2.2.2.2.2.2.2.2.2.1, u.2.2.2.2.2.2.2.2.2.2.2.2.2.2.2.2.2.2.2)
def ms_to (u : MS) (x : (Nat → Int32)) : MS := (u.1, u.2.1, u.2.2.1, u.2.2.2.1, u.2.2.2.2.1, u.2.2.2.2.2.1, u.2.2.2.2.2.2.1, u.2.2.2.2.2.2.2.1, u.2.2.2.2.2.2.2.2.1, u.2.2.2.2.2.2.2.2.2.1, u.2.2.2.2.2.2.2.2.2.2.1, x, u.2.2.2.2.2.2.2.2.2.2.2.2.1, u.2.2.2.2.2.2.2.2.2.2.2.2.2.1, u.2.2.2.2.2.2.2.2.2.2.2.2.2.2.1, u.2.2.2.2.2.2.2.2.2.2.2.2.2.2.2.1, u.2.2.2.2.2.2.2.2.2.2.2.2.2.2.2.2.1, u.2.2.2.2.2.2.2.2.2.2.2.2.2.2.2.2.2.1, u.2.2.2.2.2.2.2.2.2.2.2.2.2.2.2.2.2.2.1, u.2.2.2.2.2.2.2.2.2.2.2.2.2.2.2.2.2.2.2)
def ms_wt (u : MS) (x : (Nat → UInt64)) : MS := (u.1, u.2.1, u.2.2.1, u.2.2.2.1, u.2.2.2.2.1, u.2.2.2.2.2.1, u.2.2.2.2.2.2.1, u.2.2.2.2.2.2.2.1, u.2.2.2.2.2.2.2.2.1, u.2.2.2.2.2.2.2.2.2.1, u.2.2.2.2.2.2.2.2.2.2.1, u.2.2.2.2.2.2.2.2.2.2.2.1, x, u.2.2.2.2.2.2.2.2.2.2.2.2.2.1, u.2.2.2.2.2.2.2.2.2.2.2.2.2.2.1, u.2.2.2.2.2.2.2.2.2.2.2.2.2.2.2.1, u.2.2.2.2.2.2.2.2.2.2.2.2.2.2.2.2.1, u.2.2.2.2.2.2.2.2.2.2.2.2.2.2.2.2.2.1, u.2.2.2.2.2.2.2.2.2.2.2.2.2.2.2.2.2.2.1, u.2.2.2.2.2.2.2.2.2.2.2.2.2.2.2.2.2.2.2)
def ms_va (u : MS) (x : (Nat → UInt64)) : MS := (u.1, u.2.1, u.2.2.1, u.2.2.2.1, u.2.2.2.2.1, u.2.2.2.2.2.1, u.2.2.2.2.2.2.1, u.2.2.2.2.2.2.2.1, u.2.2.2.2.2.2.2.2.1, u.2.2.2.2.2.2.2.2.2.1, u.2.2.2.2.2.2.2.2.2.2.1, u.2.2.2.2.2.2.2.2.2.2.2.1, u.2.2.2.2.2.2.2.2.2.2.2.2.1, x, u.2.2.2.2.2.2.2.2.2.2.2.2.2.2.1, u.2.2.2.2.2.2.2.2.2.2.2.2.2.2.2.1, u.2.2.2.2.2.2.2.2.2.2.2.2.2.2.2.2.1, u.2.2.2.2.2.2.2.2.2.2.2.2.2.2.2.2.2.1, u.2.2.2.2.2.2.2.2.2.2.2.2.2.2.2.2.2.2.1, u.2.2.2.2.2.2.2.2.2.2.2.2.2.2.2.2.2.2.2)
def ms_kn (u : MS) (x : (Nat → Int32)) : MS := (u.1, u.2.1, u.2.2.1, u.2.2.2.1, u.2.2.2.2.1, u.2.2.2.2.2.1, u.2.2.2.2.2.2.1, u.2.2.2.2.2.2.2.1, u.2.2.2.2.2.2.2.2.1, u.2.2.2.2.2.2.2.2.2.1, u.2.2.2.2.2.2.2.2.2.2.1, u.2.2.2.2.2.2.2.2.2.2.2.1, u.2.2.2.2.2.2.2.2.2.2.2.2.1, u.2.2.2.2.2.2.2.2.2.2.2.2.2.1, x, u.2.2.2.2.2.2.2.2.2.2.2.2.2.2.2.1, u.2.2.2.2.2.2.2.2.2.2.2.2.2.2.2.2.1, u.2.2.2.2.2.2.2.2.2.2.2.2.2.2.2.2.2.1, u.2.2.2.2.2.2.2.2.2.2.2.2.2.2.2.2.2.2.1, u.2.2.2.2.2.2.2.2.2.2.2.2.2.2.2.2.2.2.2)
def ms_cm (u : MS) (x : (Nat → UInt64)) : MS := (u.1, u.2.1, u.2.2.1, u.2.2.2.1, u.2.2.2.2.1, u.2.2.2.2.2.1, u.2.2.2.2.2.2.1, u.2.2.2.2.2.2.2.1, u.2.2.2.2.2.2.2.2.1, u.2.2.2.2.2.2.2.2.2.1, u.2.2.2.2.2.2.2.2.2.2.1, u.2.2.2.2.2.2.2.2.2.2.2.1, u.2.2.2.2.2.2.2.2.2.2.2.2.1, u.2.2.2.2.2.2.2.2.2.2.2.2.2.1, u.2.2.2.2.2.2.2.2.2.2.2.2.2.2.1, x, u.2.2.2.2.2.2.2.2.2.2.2.2.2.2.2.2.1, u.2.2.2.2.2.2.2.2.2.2.2.2.2.2.2.2.2.1, u.2.2.2.2.2.2.2.2.2.2.2.2.2.2.2.2.2.2.1, u.2.2.2.2.2.2.2.2.2.2.2.2.2.2.2.2.2.2.2)
def ms_cs (u : MS) (x : (Nat → Int32)) : MS := (u.1, u.2.1, u.2.2.1, u.2.2.2.1, u.2.2.2.2.1, u.2.2.2.2.2.1, u.2.2.2.2.2.2.1, u.2.2.2.2.2.2.2.1, u.2.2.2.2.2.2.2.2.1, u.2.2.2.2.2.2.2.2.2.1, u.2.2.2.2.2.2.2.2.2.2.1, u.2.2.2.2.2.2.2.2.2.2.2.1, u.2.2.2.2.2.2.2.2.2.2.2.2.1, u.2.2.2.2.2.2.2.2.2.2.2.2.2.1, u.2.2.2.2.2.2.2.2.2.2.2.2.2.2.1, u.2.2.2.2.2.2.2.2.2.2.2.2.2.2.2.1, x, u.2.2.2.2.2.2.2.2.2.2.2.2.2.2.2.2.2.1, u.2.2.2.2.2.2.2.2.2.2.2.2.2.2.2.2.2.2.1, u.2.2.2.2.2.2.2.2.2.2.2.2.2.2.2.2.2.2.2)
def ms_gn (u : MS) (x : (Nat → UInt64)) : MS := (u.1, u.2.1, u.2.2.1, u.2.2.2.1, u.2.2.2.2.1, u.2.2.2.2.2.1, u.2.2.2.2.2.2.1, u.2.2.2.2.2.2.2.1, u.2.2.2.2.2.2.2.2.1, u.2.2.2.2.2.2.2.2.2.1, u.2.2.2.2.2.2.2.2.2.2.1, u.2.2.2.2.2.2.2.2.2.2.2.1, u.2.2.2.2.2.2.2.2.2.2.2.2.1, u.2.2.2.2.2.2.2.2.2.2.2.2.2.1, u.2.2.2.2.2.2.2.2.2.2.2.2.2.2.1, u.2.2.2.2.2.2.2.2.2.2.2.2.2.2.2.1, u.2.2.2.2.2.2.2.2.2.2.2.2.2.2.2.2.1, x, u.2.2.2.2.2.2.2.2.2.2.2.2.2.2.2.2.2.2.1, u.2.2.2.2.2.2.2.2.2.2.2.2.2.2.2.2.2.2.2)
def ms_gs (u : MS) (x : (Nat → Int32)) : MS := (u.1, u.2.1, u.2.2.1, u.2.2.2.1, u.2.2.2.2.1, u.2.2.2.2.2.1, u.2.2.2.2.2.2.1, u.2.2.2.2.2.2.2.1, u.2.2.2.2.2.2.2.2.1, u.2.2.2.2.2.2.2.2.2.1, u.2.2.2.2.2.2.2.2.2.2.1, u.2.2.2.2.2.2.2.2.2.2.2.1, u.2.2.2.2.2.2.2.2.2.2.2.2.1, u.2.2.2.2.2.2.2.2.2.2.2.2.2.1, u.2.2.2.2.2.2.2.2.2.2.2.2.2.2.1, u.2.2.2.2.2.2.2.2.2.2.2.2.2.2.2.1, u.2.2.2.2.2.2.2.2.2.2.2.2.2.2.2.2.1, u.2.2.2.2.2.2.2.2.2.2.2.2.2.2.2.2.2.1, x, u.2.2.2.2.2.2.2.2.2.2.2.2.2.2.2.2.2.2.2)
def ms_sp (u : MS) (x : (Nat → Int32)) : MS := (u.1, u.2.1, u.2.2.1, u.2.2.2.1, u.2.2.2.2.1, u.2.2.2.2.2.1, u.2.2.2.2.2.2.1, u.2.2.2.2.2.2.2.1, u.2.2.2.2.2.2.2.2.1, u.2.2.2.2.2.2.2.2.2.1, u.2.2.2.2.2.2.2.2.2.2.1, u.2.2.2.2.2.2.2.2.2.2.2.1, u.2.2.2.2.2.2.2.2.2.2.2.2.1, u.2.2.2.2.2.2.2.2.2.2.2.2.2.1, u.2.2.2.2.2.2.2.2.2.2.2.2.2.2.1, u.2.2.2.2.2.2.2.2.2.2.2.2.2.2.2.1, u.2.2.2.2.2.2.2.2.2.2.2.2.2.2.2.2.1, u.2.2.2.2.2.2.2.2.2.2.2.2.2.2.2.2.2.1, u.2.2.2.2.2.2.2.2.2.2.2.2.2.2.2.2.2.2.1, x)
def cfs (g : Nat → Nat) (u : CS) : List Value := [.ref (g 1), .ref (g 2), .ref (g 3), .int (c_n u), .int (c_e u), .int (c_k u), .ref (g 4), .ref (g 5), .ref (g 6), .int (c_ru u), .int (c_pr u), .int (c_wc u), .int (c_sc u), .int (c_se u), .int (c_de u), .int (c_cr u)]
def crow (ki : Nat → ClassId) (g : Nat → Nat) (wa : Nat → Nat → UInt64) (i : Nat) : Nat × va_E := (g (7 + i), .inl (ki 1, 4, .inr (.inr (.inr (.inl (wa i))))))
def cout (g : Nat → Nat) : Nat → Option Nat := fun i => if i < 12 then some (g (7 + i)) else none
def cw (ki : Nat → ClassId) (g : Nat → Nat) (u : CS) : va_W := [(g 0, .inr (0, cfs g u)), (g 1, .inl (ki 0, 30, .inl (c_fe u))), (g 2, .inl (ki 0, 30, .inl (c_sd u))), (g 3, .inl (ki 1, 30, .inr (.inr (.inr (.inl (c_wt u)))))), (g 4, .inl (ki 1, 12, .inr (.inr (.inr (.inl (c_va u)))))), (g 5, .inl (ki 2, 12, .inl (c_sn u))), (g 6, .inl (ki 3, 12, .inr (.inr (.inr (.inr (cout g))))))] ++ (List.range 12).map (crow ki g (c_wa u))
abbrev cty (ki : Nat → ClassId) : List (ClassId × FieldType) := [(ki 0, .int), (ki 1, .double), (ki 2, .boolean), (ki 3, .array .double)]
def mfs (g : Nat → Nat) (u : MS) : List Value := [.ref (g 1), .ref (g 2), .ref (g 3), .int (m_n u), .int (m_e u), .int (m_k u), .int (m_bg u), .int (m_pr u), .int (m_st u), .int (m_se u), .int (m_de u), .int (m_cr u), .int (m_th u), .ref (g 4), .ref (g 5), .ref (g 6), .ref (g 7), .ref (g 8), .ref (g 9), .ref (g 10)]
def mw (ki : Nat → ClassId) (g : Nat → Nat) (u : MS) : va_W := [(g 0, .inr (1, mfs g u)), (g 1, .inl (ki 0, 30, .inl (m_fr u))), (g 2, .inl (ki 0, 30, .inl (m_to u))), (g 3, .inl (ki 1, 30, .inr (.inr (.inr (.inl (m_wt u)))))), (g 4, .inl (ki 1, 12, .inr (.inr (.inr (.inl (m_va u)))))), (g 5, .inl (ki 2, 12, .inl (m_kn u))), (g 6, .inl (ki 1, 48, .inr (.inr (.inr (.inl (m_cm u)))))), (g 7, .inl (ki 2, 48, .inl (m_cs u))), (g 8, .inl (ki 1, 48, .inr (.inr (.inr (.inl (m_gn u)))))), (g 9, .inl (ki 2, 48, .inl (m_gs u))), (g 10, .inl (ki 2, 12, .inl (m_sp u)))]
abbrev mty (ki : Nat → ClassId) : List (ClassId × FieldType) := [(ki 0, .int), (ki 1, .double), (ki 2, .boolean)]
theorem cw_0 (ki : Nat → ClassId) (g : Nat → Nat) (u : CS) : (cw ki g u)[0]? = some (g 0, .inr (0, cfs g u)) := rfl
theorem mw_0 (ki : Nat → ClassId) (g : Nat → Nat) (u : MS) : (mw ki g u)[0]? = some (g 0, .inr (1, mfs g u)) := rfl
/-- one place of one row -/
def up2 (wa : Nat → Nat → UInt64) (i j : Nat) (x : UInt64) : Nat → Nat → UInt64 := fun a => if a = i then vf_upd (wa i) j x else wa a
theorem range_set {α : Type} (f h : Nat → α) (n i : Nat) (x : α) (hi : h i = x) (ho : ∀ j, j ≠ i → h j = f j) : ((List.range n).map f).set i x = (List.range n).map h := by
  apply List.ext_getElem?
  intro j
  rw [List.getElem?_set]
  by_cases e : i = j
  · subst e
    by_cases hl : i < n
    · simp [hl, hi]
    · simp [hl]
  · rw [if_neg e]
    by_cases hl : j < n
    · simp [hl, ho j (fun q => e q.symm)]
    · simp [hl]
theorem crow_at (ki : Nat → ClassId) (g : Nat → Nat) (u : CS) {i : Nat} (hi : i < 12) : (cw ki g u)[7 + i]? = some (g (7 + i), .inl (ki 1, 4, .inr (.inr (.inr (.inl (c_wa u i)))))) := by
  unfold cw
  rw [List.getElem?_append_right (by simp)]
  simp [hi, crow]
theorem crow_set (ki : Nat → ClassId) (g : Nat → Nat) (u : CS) {i j : Nat} (x : UInt64) : (cw ki g u).set (7 + i) (g (7 + i), .inl (ki 1, 4, .inr (.inr (.inr (.inl (vf_upd (c_wa u i) j x)))))) = cw ki g (cs_wa u (up2 (c_wa u) i j x)) := by
  have h : ∀ (a b : va_W) (v : Nat × va_E), a.length = 7 → (a ++ b).set (7 + i) v = a ++ b.set i v := fun a b v ha => by
    rw [List.set_append_right _ _ (by omega), ha, Nat.add_sub_cancel_left]
  unfold cw
  rw [h _ _ _ rfl, range_set (crow ki g (c_wa u)) (crow ki g (up2 (c_wa u) i j x)) 12 i]
  · rfl
  · simp [crow, up2]
  · intro a ha
    simp [crow, up2, ha]
end
section
/-! THE MIRRORS: what each method does to its state, as a function. -/
def fo {α : Type} (f : Nat → α → α) : Nat → α → α
  | 0, a => a
  | n + 1, a => f n (fo f n a)
def b2 (b : Bool) : Int32 := if b = true then 1 else 0
theorem b2_0 {b : Bool} (h : b2 b = 0) : ¬ b = true := by cases b <;> simp_all [b2]
theorem b2_1 {b : Bool} (h : ¬ b2 b = 0) : b = true := by cases b <;> simp_all [b2]
theorem b2_nar (b : Bool) : vp_nar .boolean (b2 b) = b2 b := by cases b <;> rfl
theorem nar_0 : vp_nar .boolean 0 = 0 := rfl
theorem nar_1 : vp_nar .boolean 1 = 1 := rfl
abbrev NN : UInt64 := 13830554455654793216
abbrev MX : UInt64 := 4696837146684686336
abbrev D0 : UInt64 := FP.dconst0
abbrev D1 : UInt64 := FP.dconst1
/-- dcmpl, dcmpg -/
def dl (x y : UInt64) : Int32 := Op.cmpValue (FP.dcmp x y) CmpOp.l
def dg (x y : UInt64) : Int32 := Op.cmpValue (FP.dcmp x y) CmpOp.g
/-- an int as a place -/
abbrev tn (x : Int32) : Nat := x.toNatClampNeg
-- the class
def C_isV (n v : Int32) : Bool := if v < 0 then false else if n ≤ v then false else true
def C_isW (w : UInt64) : Bool := if dl w D0 < 0 then false else if 0 < dg w MX then false else true
def C_end (u : CS) : CS := cs_cr (cs_de (cs_se (cs_sc (cs_wc (cs_ru u 0) 0) 0) 0) 0) 0
def C_first (pr v s : Int32) : UInt64 := if pr = 1 then FP.i2d v else if v = s then (if pr = 3 then MX else D0) else NN
def C_msg (pr : Int32) (x w : UInt64) : UInt64 := if pr = 0 then FP.dadd x w else if pr = 1 then x else if pr = 2 then FP.dadd x D1 else if 0 < dg x w then w else x
def C_bet (pr : Int32) (x y : UInt64) : Bool := if dl x NN = 0 then false else if dl y NN = 0 then true else if pr = 3 then (if dl x y ≤ 0 then false else true) else (if 0 ≤ dg x y then false else true)
def C_bs (pr : Int32) (row : Nat → UInt64) (p : Nat) (b : UInt64) : UInt64 := if C_bet pr (row p) b = true then row p else b
def C_best (pr : Int32) (k : Nat) (row : Nat → UInt64) : UInt64 := fo (C_bs pr row) k NN
abbrev QS : Type := Int32 × Int32 × Int32 × Int32 × (Nat → Nat → UInt64)
def c_q (u : CS) : QS := (c_wc u, c_se u, c_de u, c_cr u, c_wa u)
def cs_q (u : CS) (q : QS) : CS := cs_wa (cs_cr (cs_de (cs_se (cs_wc u q.1) q.2.1) q.2.2.1) q.2.2.2.1) q.2.2.2.2
def C_cnt (k part to : Nat) (q : QS) : QS := (q.1 + 1, q.2.1, q.2.2.1 + 1, (if to % k = part then q.2.2.2.1 else q.2.2.2.1 + 1), q.2.2.2.2)
def C_put (pr : Int32) (to part : Nat) (m : UInt64) (q : QS) : QS := if C_bet pr m (q.2.2.2.2 to part) = true then (q.1, q.2.1, q.2.2.1, q.2.2.2.1, up2 q.2.2.2.2 to part m) else q
def C_one (k part to : Nat) (q : QS) : QS := if dl (q.2.2.2.2 to part) NN = 0 then C_cnt k part to q else q
def C_send (pr : Int32) (k : Nat) (sn : Nat → Int32) (va : Nat → UInt64) (fr to : Nat) (w : UInt64) (q : QS) : QS :=
  if sn fr = 0 then q else C_put pr to (fr % k) (C_msg pr (va fr) w) (C_one k (fr % k) to (q.1, q.2.1 + 1, q.2.2.1, q.2.2.2.1, q.2.2.2.2))
def C_clr (n k : Nat) (wa : Nat → Nat → UInt64) : Nat → Nat → UInt64 := fo (fun v wa => fo (fun p wa => up2 wa v p NN) k wa) n wa
def C_edge2 (pr : Int32) (k : Nat) (sn : Nat → Int32) (va : Nat → UInt64) (fe sd : Nat → Int32) (wt : Nat → UInt64) (e : Nat) (q : QS) : QS :=
  C_send pr k sn va (tn (sd e)) (tn (fe e)) (wt e) (C_send pr k sn va (tn (fe e)) (tn (sd e)) (wt e) q)
def C_eq (n k : Nat) (u : CS) (i : Nat) : QS := fo (C_edge2 (c_pr u) k (c_sn u) (c_va u) (c_fe u) (c_sd u) (c_wt u)) i (0, c_se u, c_de u, c_cr u, C_clr n k (c_wa u))
def C_es (n k ec : Nat) (u : CS) : CS := cs_sc (cs_q u (C_eq n k u ec)) (c_sc u + 1)
abbrev VS : Type := (Nat → UInt64) × (Nat → Int32)
def C_b1 (p s : Int32) (v : Nat) (d : VS) : VS := (vf_upd d.1 v (C_first p (nI v) s), upd d.2 v (if dl (C_first p (nI v) s) NN = 0 then 0 else 1))
def C_bv (u : CS) (p s : Int32) (i : Nat) : VS := fo (C_b1 p s) i (c_va u, c_sn u)
def C_beginS (n : Nat) (u : CS) (p s : Int32) : CS := cs_sn (cs_va (cs_pr (cs_ru (C_end u) 1) p) (C_bv u p s n).1) (C_bv u p s n).2
def C_begin (n k ec : Nat) (u : CS) (p s : Int32) : CS := C_es n k ec (C_beginS n u p s)
abbrev DS : Type := Int32 × (Nat → UInt64) × (Nat → Int32)
def C_d1 (pr : Int32) (k : Nat) (wa : Nat → Nat → UInt64) (v : Nat) (d : DS) : DS :=
  let b := C_best pr k (wa v)
  let t := C_bet pr b (d.2.1 v)
  (if dl b NN = 0 then d.1 else d.1 + 1, if t = true then vf_upd d.2.1 v b else d.2.1, upd d.2.2 v (b2 t))
def C_dv (k : Nat) (u : CS) (i : Nat) : DS := fo (C_d1 (c_pr u) k (c_wa u)) i (0, c_va u, c_sn u)
def C_doS (n k : Nat) (u : CS) : CS := cs_sn (cs_va u (C_dv k u n).2.1) (C_dv k u n).2.2
def C_do (n k ec : Nat) (u : CS) : CS := C_es n k ec (C_doS n k u)
def C_sum (n : Nat) (va : Nat → UInt64) : UInt64 := fo (fun v t => if dl (va v) NN = 0 then t else FP.dadd t (va v)) n D0
def C_deg (v : Int32) (e : Nat) (fe sd : Nat → Int32) : Int32 := fo (fun i x => if fe i = v then x + 1 else if sd i = v then x + 1 else x) e 0
def C_edge (ec : Nat) (u : CS) (a b : Int32) (w : UInt64) : CS :=
  C_end (cs_e (cs_wt (cs_sd (cs_fe u (upd (c_fe u) ec a)) (upd (c_sd u) ec b)) (vf_upd (c_wt u) ec (if dl w D0 ≤ 0 then D0 else w))) (c_e u + 1))
def rng (h v : Int32) : Bool := if v < 1 then false else if v ≤ h then true else false
def C_size (u : CS) (v : Int32) : CS := C_end (cs_e (cs_n u v) 0)
def C_parts (u : CS) (v : Int32) : CS := C_end (cs_k u v)
def C_eok (n e a b : Int32) (w : UInt64) : Bool := if C_isV n a = true then (if C_isV n b = true then (if a = b then false else if C_isW w = true then (if e < 30 then true else false) else false) else false) else false
def C_val (u : CS) (v : Int32) : UInt64 := if c_ru u = 0 then NN else if C_isV (c_n u) v = true then c_va u (tn v) else NN
def C_pend (u : CS) (v p : Int32) : UInt64 := if c_ru u = 0 then NN else if C_isV (c_n u) v = true then (if C_isV (c_k u) p = true then c_wa u (tn v) (tn p) else NN) else NN
def C_over (u : CS) : Bool := if c_ru u = 0 then false else if c_wc u = 0 then true else false
theorem isV_of {n : Nat} {v : Int32} (hn : n < 2 ^ 31) (h : C_isV (nI n) v = true) : ∃ j : Nat, j < n ∧ v = nI j := by
  unfold C_isV at h
  by_cases h1 : v < 0
  · rw [if_pos h1] at h; cases h
  · rw [if_neg h1] at h
    by_cases h2 : nI n ≤ v
    · rw [if_pos h2] at h; cases h
    · rcases pk_ix v hn with q | q | q
      · exact absurd q h1
      · exact absurd q h2
      · exact q
theorem isV_nI {n j : Nat} (hn : n < 2 ^ 31) (h : j < n) : C_isV (nI n) (nI j) = true := by
  unfold C_isV
  rw [if_neg (nI_pos (by omega)), if_neg (nI_ge h hn)]
-- the reference
def zer (n : Nat) (f : Nat → Int32) : Nat → Int32 := fo (fun i f => upd f i 0) n f
def M_forget (u : MS) : MS :=
  ms_cs (ms_kn (ms_cr (ms_de (ms_se (ms_st (ms_bg u 0) 0) 0) 0) 0) (zer 12 (m_kn u))) (zer 48 (m_cs u))
def M_bet (pr : Int32) (x y : UInt64) : Bool := if pr = 3 then (if dl x y ≤ 0 then false else true) else (if 0 ≤ dg x y then false else true)
def M_msg (pr : Int32) (x w : UInt64) : UInt64 := if pr = 0 then FP.dadd x w else if pr = 1 then x else if pr = 2 then FP.dadd x D1 else if 0 ≤ dg x w then w else x
abbrev PS : Type := Int32 × (Nat → UInt64) × (Nat → Int32)
def m_p (u : MS) : PS := (m_se u, m_gn u, m_gs u)
def ms_p (u : MS) (q : PS) : MS := ms_gs (ms_gn (ms_se u q.1) q.2.1) q.2.2
def M_put (pr : Int32) (at_ : Nat) (m : UInt64) (q : PS) : PS :=
  (q.1, (if q.2.2 at_ = 0 then vf_upd q.2.1 at_ m else if M_bet pr m (q.2.1 at_) = true then vf_upd q.2.1 at_ m else q.2.1), upd q.2.2 at_ 1)
def M_send (pr : Int32) (k : Nat) (sp : Nat → Int32) (va : Nat → UInt64) (fr to : Nat) (w : UInt64) (q : PS) : PS :=
  if sp fr = 0 then q else M_put pr (4 * to + fr % k) (M_msg pr (va fr) w) (q.1 + 1, q.2.1, q.2.2)
def M_edge2 (pr : Int32) (k : Nat) (sp : Nat → Int32) (va : Nat → UInt64) (fr to : Nat → Int32) (wt : Nat → UInt64) (e : Nat) (q : PS) : PS :=
  M_send pr k sp va (tn (to e)) (tn (fr e)) (wt e) (M_send pr k sp va (tn (fr e)) (tn (to e)) (wt e) q)
/-- comes, coming, crossed, many -/
abbrev TS : Type := (Nat → Int32) × (Nat → UInt64) × Int32 × Int32
def M_t1 (k : Nat) (gn : Nat → UInt64) (gs : Nat → Int32) (i : Nat) (t : TS) : TS :=
  (upd t.1 i (gs i), vf_upd t.2.1 i (gn i), (if gs i = 0 then t.2.2.1 else if i % 4 = i / 4 % k then t.2.2.1 else t.2.2.1 + 1), (if gs i = 0 then t.2.2.2 else t.2.2.2 + 1))
def M_sp (k : Nat) (u : MS) (i : Nat) : PS := fo (M_edge2 (m_pr u) k (m_sp u) (m_va u) (m_fr u) (m_to u) (m_wt u)) i (m_se u, m_gn u, zer 48 (m_gs u))
def M_st (k ec : Nat) (u : MS) (i : Nat) : TS := fo (M_t1 k (M_sp k u ec).2.1 (M_sp k u ec).2.2) i (m_cs u, m_cm u, m_cr u, 0)
def M_all (k ec : Nat) (u : MS) : MS :=
  ms_gs (ms_gn (ms_cs (ms_cm (ms_cr (ms_de (ms_se (ms_st u (m_st u + 1)) (M_sp k u ec).1) (m_de u + (M_st k ec u 48).2.2.2)) (M_st k ec u 48).2.2.1) (M_st k ec u 48).2.1) (M_st k ec u 48).1) (M_sp k u ec).2.1) (M_sp k u ec).2.2
/-- known, values, speaks -/
abbrev BS : Type := (Nat → Int32) × (Nat → UInt64) × (Nat → Int32)
def M_b1 (p s : Int32) (v : Nat) (d : BS) : BS :=
  let kv : Int32 := if p = 1 then 1 else if nI v = s then 1 else 0
  (upd d.1 v kv, vf_upd d.2.1 v (if p = 1 then FP.i2d (nI v) else if p = 3 then MX else D0), upd d.2.2 v kv)
def M_bv (u : MS) (p s : Int32) (i : Nat) : BS := fo (M_b1 p s) i (zer 12 (m_kn u), m_va u, m_sp u)
def M_beginS (n : Nat) (u : MS) (p s : Int32) : MS :=
  ms_sp (ms_kn (ms_va (ms_pr (ms_bg (M_forget (ms_th u 0)) 1) p) (M_bv u p s n).2.1) (M_bv u p s n).1) (M_bv u p s n).2.2
def M_begin (n k ec : Nat) (u : MS) (p s : Int32) : MS := M_all k ec (M_beginS n u p s)
/-- is any of the first n set? -/
def M_any : Nat → (Nat → Int32) → Bool
  | 0, _ => false
  | n + 1, f => M_any n f || decide (¬ f n = 0)
/-- woken, known, values, speaks -/
abbrev OS : Type := Int32 × (Nat → Int32) × (Nat → UInt64) × (Nat → Int32)
def M_o2 (pr : Int32) (cs : Nat → Int32) (cm : Nat → UInt64) (v p : Nat) (d : OS) : OS :=
  if cs (4 * v + p) = 0 then d else
  if d.2.1 v = 0 then (1, upd d.2.1 v 1, vf_upd d.2.2.1 v (cm (4 * v + p)), upd d.2.2.2 v 1) else
  if M_bet pr (cm (4 * v + p)) (d.2.2.1 v) = true then (1, upd d.2.1 v 1, vf_upd d.2.2.1 v (cm (4 * v + p)), upd d.2.2.2 v 1) else (1, d.2)
def M_oi (u : MS) (v : Nat) (d : OS) (j : Nat) : OS := fo (M_o2 (m_pr u) (m_cs u) (m_cm u) v) j (0, d.2.1, d.2.2.1, upd d.2.2.2 v 0)
/-- active, known, values, speaks -/
def M_o1 (pr : Int32) (cs : Nat → Int32) (cm : Nat → UInt64) (v : Nat) (d : OS) : OS :=
  let r := fo (M_o2 pr cs cm v) 4 (0, d.2.1, d.2.2.1, upd d.2.2.2 v 0)
  (if r.1 = 0 then d.1 else d.1 + 1, r.2)
def M_ov (u : MS) (i : Nat) : OS := fo (M_o1 (m_pr u) (m_cs u) (m_cm u)) i (0, m_kn u, m_va u, m_sp u)
def M_doS (n : Nat) (u : MS) : MS := ms_sp (ms_kn (ms_va u (M_ov u n).2.2.1) (M_ov u n).2.1) (M_ov u n).2.2.2
def M_do (n k ec : Nat) (u : MS) : MS := M_all k ec (M_doS n u)
def M_bok (n p s : Int32) : Bool := if p < 0 then false else if 3 < p then false else if C_isV n s = true then true else false
def M_size (u : MS) (v : Int32) : MS := M_forget (ms_e (ms_n u v) 0)
def M_parts (u : MS) (v : Int32) : MS := M_forget (ms_k u v)
def M_eok (n e a b : Int32) (w : UInt64) : Bool := if C_isV n a = true then (if C_isV n b = true then (if a = b then false else if dl w D0 < 0 then false else if 0 < dg w MX then false else if e = 30 then false else true) else false) else false
def M_val (u : MS) (v : Int32) : UInt64 := if m_bg u = 0 then NN else if C_isV (m_n u) v = true then (if m_kn u (tn v) = 0 then NN else m_va u (tn v)) else NN
def M_pend (u : MS) (v p : Int32) : UInt64 := if C_isV (m_n u) v = true then (if C_isV (m_k u) p = true then (if m_cs u (4 * tn v + tn p) = 0 then NN else m_cm u (4 * tn v + tn p)) else NN) else NN
def M_over (u : MS) : Bool := if m_bg u = 0 then false else if M_any 48 (m_cs u) = true then false else true
def M_sok (u : MS) : Bool := if m_bg u = 0 then false else if M_any 48 (m_cs u) = true then true else false
theorem M_any_of {f : Nat → Int32} {i : Nat} : ∀ {n : Nat}, i < n → ¬ f i = 0 → M_any n f = true
  | 0, h, _ => absurd h (Nat.not_lt_zero i)
  | n + 1, h, hf => by
    unfold M_any
    rcases Nat.lt_or_ge i n with q | q
    · rw [M_any_of q hf]; rfl
    · have e : i = n := by omega
      subst e
      simp [hf]
theorem M_any_succ {f : Nat → Int32} {n : Nat} (h : M_any n f = false) (hf : f n = 0) : M_any (n + 1) f = false := by
  unfold M_any
  rw [h, hf]; rfl
theorem at4 {to fr k : Nat} (hfr : fr < 2 ^ 31) (h0 : 0 < k) (hk : k < 2 ^ 31) : (4 : Int32) * nI to + (nI fr - nI fr / nI k * nI k) = nI (4 * to + fr % k) := by
  rw [pk_rem hfr h0 hk, show (4 : Int32) = nI 4 from rfl, pk_mul, nI_add]
theorem at4' (v p : Nat) : (4 : Int32) * nI v + nI p = nI (4 * v + p) := by
  rw [show (4 : Int32) = nI 4 from rfl, pk_mul, nI_add]
theorem rem4 {i : Nat} (h : i < 2 ^ 31) : nI i - nI i / 4 * 4 = nI (i % 4) := pk_rem (d := 4) h (by decide) (by decide)
theorem div4 {i : Nat} (h : i < 2 ^ 31) : nI i / 4 = nI (i / 4) := pk_div (d := 4) h (by decide) (by decide)
def M_sum (n : Nat) (kn : Nat → Int32) (va : Nat → UInt64) : UInt64 := fo (fun v t => if kn v = 0 then t else FP.dadd t (va v)) n D0
def M_deg (v : Int32) (e : Nat) (fe sd : Nat → Int32) : Int32 := fo (fun i x => if fe i = v then x + 1 else if sd i = v then x + 1 else x) e 0
def M_edge (ec : Nat) (u : MS) (a b : Int32) (w : UInt64) : MS :=
  M_forget (ms_e (ms_wt (ms_to (ms_fr u (upd (m_fr u) ec a)) (upd (m_to u) ec b)) (vf_upd (m_wt u) ec (FP.dadd w D0))) (m_e u + 1))
/-- so many steps -/
def C_it (n k ec : Nat) (u : CS) : Nat → CS
  | 0 => u
  | i + 1 => C_do n k ec (C_it n k ec u i)
def M_it (n k ec : Nat) (u : MS) : Nat → MS
  | 0 => u
  | i + 1 => M_do n k ec (M_it n k ec u i)
/-- the sums that a message may need are numbers -/
def N2 (x w : UInt64) : Prop := vf_n64 (FP.dadd x w) ∧ vf_n64 (FP.dadd x D1)
/-- what sending along the edges needs: ends are places, sums are numbers -/
def okE (sn : Nat → Int32) (va : Nat → UInt64) (fe sd : Nat → Int32) (wt : Nat → UInt64) (ec : Nat) : Prop :=
  ∀ j, j < ec → ∃ a b : Nat, a < 12 ∧ b < 12 ∧ fe j = nI a ∧ sd j = nI b ∧ (¬ sn a = 0 → N2 (va a) (wt j)) ∧ (¬ sn b = 0 → N2 (va b) (wt j))
end
section
/-! ROWS OF OUR OWN over the two worlds: fields of a StepGraph (c_), of a StepGraphModel (m_), compares of doubles. -/
section KR2
variable {p : Program} {l : Launch} {e : Env} {R : Room} {s : State} {m : MethodId} {args : Array Value} {below : List Frame} {meth : Method} {c : Code} {H : Heap} {locs : List Loc} {cells slots : Nat} {Q : State → Prop}
variable {cc : ByteArray} {pc : Nat} {ls : Array Slot} {rest : List Value} {D : va_G} {A : Nat → Prop} {tys : List (ClassId × FieldType)} {H0 : Heap} {ki : Nat → ClassId} {g : Nat → Nat} {Ts : List Cond}
theorem c_get {u : CS} (hexec : p.tables.exec = Jvm.exec) (hb : c.code = cc) (hts : ∀ w ∈ Ts, w.before args s = true) (hin : ∀ w ∈ wsX00, w ∈ Ts) (hown : s.vm.findClass RX0 = some m.cls) (hK : va_K D vwCl tys s) (hP : va_P D vwCl (cw ki g u) H) (k : Nat) (hk : k < 16) (hT : (TX0 k).1 = "StepGraph") {index : Nat} (hlink : (Cond.fieldLink RX0 index "StepGraph" (TX0 k).2.1 (TX0 k).2.2.1).before args s = true) (v : Value) (hv : (cfs g u)[k]? = some v) (hdg : decode cc pc = .ok (.getfield index, 3))
    (kk : W p l e R s m args below meth c H locs cells slots Q (F0 m (pc + 3) ls (v :: rest))) : W p l e R s m args below meth c H locs cells slots Q (F0 m pc ls (.ref (g 0) :: rest)) :=
  va_get (D := D) (ci := 0) (C := RX0) (T := TX0) (N := 16) hexec hb hts hin hown hK hP 0 (cw_0 ki g u) rfl k hk hlink (fun _ h9 => by rw [hT] at h9; exact h9) hv hdg kk
theorem c_put {u : CS} (hexec : p.tables.exec = Jvm.exec) (hb : c.code = cc) (hts : ∀ w ∈ Ts, w.before args s = true) (hin : ∀ w ∈ wsX00, w ∈ Ts) (hown : s.vm.findClass RX0 = some m.cls) (hK : va_K D vwCl tys s) (hP : va_P D vwCl (cw ki g u) H) (hD : va_D A (cw ki g u)) (hS : va_S A H0 H locs) (k : Nat) (hk : k < 16) (hT : (TX0 k).1 = "StepGraph") (hfin : (TX0 k).2.2.2 = false) {index : Nat} (hlink : (Cond.fieldLink RX0 index "StepGraph" (TX0 k).2.1 (TX0 k).2.2.1).before args s = true) {v : Value} (ty : FieldType) (hd : parseFieldDescriptor (TX0 k).2.2.1 = some ty) (hn : narrow ty v = v) (hfit : fits ty v = true) (u' : CS) (hu : (cw ki g u).set 0 (g 0, .inr (0, (cfs g u).set k v)) = cw ki g u') (hdg : decode cc pc = .ok (.putfield index, 3))
    (kk : ∀ (H1 : Heap) (locs1 : List Loc), va_P D vwCl (cw ki g u') H1 → va_D A (cw ki g u') → va_S A H0 H1 locs1 → W p l e R s m args below meth c H1 locs1 cells slots Q (F0 m (pc + 3) ls rest)) : W p l e R s m args below meth c H locs cells slots Q (F0 m pc ls (v :: .ref (g 0) :: rest)) := by
  refine va_put (D := D) (ci := 0) (C := RX0) (T := TX0) (N := 16) hexec hb hts hin tyX0 tyX0_ok nmX0 hown hK hP hD hS 0 (cw_0 ki g u) rfl k hk hlink (fun _ h9 => by rw [hT] at h9; exact h9) hfin hd hn hfit hk hdg (fun H1 locs1 h1 h2 h3 => ?_)
  rw [hu] at h1 h2
  exact kk H1 locs1 h1 h2 h3
theorem m_get {u : MS} (hexec : p.tables.exec = Jvm.exec) (hb : c.code = cc) (hts : ∀ w ∈ Ts, w.before args s = true) (hin : ∀ w ∈ wsX10, w ∈ Ts) (hown : s.vm.findClass RX1 = some m.cls) (hK : va_K D vwCl tys s) (hP : va_P D vwCl (mw ki g u) H) (k : Nat) (hk : k < 20) (hT : (TX1 k).1 = "StepGraphModel") {index : Nat} (hlink : (Cond.fieldLink RX1 index "StepGraphModel" (TX1 k).2.1 (TX1 k).2.2.1).before args s = true) (v : Value) (hv : (mfs g u)[k]? = some v) (hdg : decode cc pc = .ok (.getfield index, 3))
    (kk : W p l e R s m args below meth c H locs cells slots Q (F0 m (pc + 3) ls (v :: rest))) : W p l e R s m args below meth c H locs cells slots Q (F0 m pc ls (.ref (g 0) :: rest)) :=
  va_get (D := D) (ci := 1) (C := RX1) (T := TX1) (N := 20) hexec hb hts hin hown hK hP 0 (mw_0 ki g u) rfl k hk hlink (fun _ h9 => by rw [hT] at h9; exact h9) hv hdg kk
theorem m_put {u : MS} (hexec : p.tables.exec = Jvm.exec) (hb : c.code = cc) (hts : ∀ w ∈ Ts, w.before args s = true) (hin : ∀ w ∈ wsX10, w ∈ Ts) (hown : s.vm.findClass RX1 = some m.cls) (hK : va_K D vwCl tys s) (hP : va_P D vwCl (mw ki g u) H) (hD : va_D A (mw ki g u)) (hS : va_S A H0 H locs) (k : Nat) (hk : k < 20) (hT : (TX1 k).1 = "StepGraphModel") (hfin : (TX1 k).2.2.2 = false) {index : Nat} (hlink : (Cond.fieldLink RX1 index "StepGraphModel" (TX1 k).2.1 (TX1 k).2.2.1).before args s = true) {v : Value} (ty : FieldType) (hd : parseFieldDescriptor (TX1 k).2.2.1 = some ty) (hn : narrow ty v = v) (hfit : fits ty v = true) (u' : MS) (hu : (mw ki g u).set 0 (g 0, .inr (1, (mfs g u).set k v)) = mw ki g u') (hdg : decode cc pc = .ok (.putfield index, 3))
    (kk : ∀ (H1 : Heap) (locs1 : List Loc), va_P D vwCl (mw ki g u') H1 → va_D A (mw ki g u') → va_S A H0 H1 locs1 → W p l e R s m args below meth c H1 locs1 cells slots Q (F0 m (pc + 3) ls rest)) : W p l e R s m args below meth c H locs cells slots Q (F0 m pc ls (v :: .ref (g 0) :: rest)) := by
  refine va_put (D := D) (ci := 1) (C := RX1) (T := TX1) (N := 20) hexec hb hts hin tyX1 tyX1_ok nmX1 hown hK hP hD hS 0 (mw_0 ki g u) rfl k hk hlink (fun _ h9 => by rw [hT] at h9; exact h9) hfin hd hn hfit hk hdg (fun H1 locs1 h1 h2 h3 => ?_)
  rw [hu] at h1 h2
  exact kk H1 locs1 h1 h2 h3
/-- waiting[v] -/
theorem c_row {u : CS} (hexec : p.tables.exec = Jvm.exec) (hb : c.code = cc) (hK : va_K D vwCl (cty ki) s) (hP : va_P D vwCl (cw ki g u) H) {v : Nat} (hv : v < 12) (hdg : decode cc pc = .ok (.aaload, 1))
    (kk : W p l e R s m args below meth c H locs cells slots Q (F0 m (pc + 1) ls (.ref (g (7 + v)) :: rest))) : W p l e R s m args below meth c H locs cells slots Q (F0 m pc ls (.int (nI v) :: .ref (g 6) :: rest)) :=
  k_aald hexec hb hK hP 6 3 (ty := .double) (f := cout g) (n := 12) (cA := ki 3) rfl rfl hv (by decide) (by unfold cout; rw [if_pos hv]) hdg kk
/-- waiting[v][q] -/
theorem c_rowld {u : CS} (hexec : p.tables.exec = Jvm.exec) (hb : c.code = cc) (hK : va_K D vwCl (cty ki) s) (hP : va_P D vwCl (cw ki g u) H) {v q : Nat} (hv : v < 12) (hq : q < 4) (hdg : decode cc pc = .ok (.daload, 1))
    (kk : W p l e R s m args below meth c H locs cells slots Q (F0 m (pc + 1) ls (.double (c_wa u v q) :: rest))) : W p l e R s m args below meth c H locs cells slots Q (F0 m pc ls (.int (nI q) :: .ref (g (7 + v)) :: rest)) :=
  k_dald hexec hb hK hP (7 + v) 1 (crow_at ki g u hv) rfl hq (by decide) hdg kk
theorem c_rowst {u : CS} (hexec : p.tables.exec = Jvm.exec) (hb : c.code = cc) (hK : va_K D vwCl (cty ki) s) (hP : va_P D vwCl (cw ki g u) H) (hD : va_D A (cw ki g u)) (hS : va_S A H0 H locs) {v q : Nat} {x : UInt64} (hv : v < 12) (hq : q < 4) (hdg : decode cc pc = .ok (.dastore, 1))
    (kk : ∀ (H1 : Heap) (locs1 : List Loc), va_P D vwCl (cw ki g (cs_wa u (up2 (c_wa u) v q x))) H1 → va_D A (cw ki g (cs_wa u (up2 (c_wa u) v q x))) → va_S A H0 H1 locs1 → W p l e R s m args below meth c H1 locs1 cells slots Q (F0 m (pc + 1) ls rest)) : W p l e R s m args below meth c H locs cells slots Q (F0 m pc ls (.double x :: .int (nI q) :: .ref (g (7 + v)) :: rest)) := by
  refine k_dast hexec hb hK hP hD hS (7 + v) 1 (crow_at ki g u hv) rfl hq (by decide) hdg (fun H1 locs1 h1 h2 h3 => ?_)
  rw [crow_set] at h1 h2
  exact kk H1 locs1 h1 h2 h3
theorem k_dcmpl (hexec : p.tables.exec = Jvm.exec) (hb : c.code = cc) {x y : UInt64} (hdg : decode cc pc = .ok (.dcmp .l, 1)) (kk : W p l e R s m args below meth c H locs cells slots Q (F0 m (pc + 1) ls (.int (dl x y) :: rest))) : W p l e R s m args below meth c H locs cells slots Q (F0 m pc ls (.double y :: .double x :: rest)) := lv_dcmp hexec hb hdg kk
theorem k_dcmpg (hexec : p.tables.exec = Jvm.exec) (hb : c.code = cc) {x y : UInt64} (hdg : decode cc pc = .ok (.dcmp .g, 1)) (kk : W p l e R s m args below meth c H locs cells slots Q (F0 m (pc + 1) ls (.int (dg x y) :: rest))) : W p l e R s m args below meth c H locs cells slots Q (F0 m pc ls (.double y :: .double x :: rest)) := lv_dcmp hexec hb hdg kk
end KR2
end
section
set_option maxHeartbeats 4000000 in
set_option maxRecDepth 100000 in
/-- isVertex -/
theorem t_X0_isVertex (l : Launch) (D : va_G) (ki : Nat → ClassId) (g : Nat → Nat) (u : CS) (sz : Nat) (v : Int32)  : gMi l yX0_isVertex wsX0_isVertex ({ frames := 0, cells := 0, slots := 0, locals := 0 }) D (cw ki g) (cty ki) u sz [.ref (g 0), .int v] (fun r u' => r = b2 (C_isV (c_n u) v) ∧ u' = u) := by
  refine g_ofi (cc := cX0_isVertex) (maxL := 2) (ret := some .boolean) (own := RX0) (by decide) rfl rfl ?_
  intro p e s m below meth c A hx hb hr hlocks hml hts hown hK hD hA H locs hP hS
  have hl := lv_entry ([.ref (g 0), .int v]) (n := 2) (Nat.le_of_ble_eq_true rfl)
  rw [lg_entry_eq]
  generalize (lg_sl ([.ref (g 0), .int v]) ++ List.replicate (2 - (lg_sl ([.ref (g 0), .int v])).length) Slot.unset).toArray = ls at hl ⊢
  have hl : lv_has ls 2 [(0, .ref (g 0)), (1, .int v)] := hl
  have hf_20 := hts (.fieldLink RX0 20 "StepGraph" "vertexCount" "I") (by decide +kernel)
  have hin : ∀ w ∈ wsX00, w ∈ wsX0_isVertex := by decide +kernel
  refine lv_iload_n hx hb dX0_isVertex_0 rfl (lv_at hl 1 rfl) ?_
  refine lv_if_lt (tgt := 16) hx hb dX0_isVertex_1 (by decide) (fun c1 => ?_) (fun c1 => ?_)
  · refine lv_iconst (v := 0) hx hb dX0_isVertex_16 (by decide) ?_
    exact W.zret (ty := .boolean) (v := 0) hx hb hr rfl (fun t ht hW => ⟨⟨0, u, rfl, ⟨by simp only [C_isV, if_pos c1] <;> rfl, rfl⟩, by rw [ht]; exact hP, va_K.moved hW.alike hK, hD⟩, hS.F ht⟩) hS.2.2 dX0_isVertex_17
  · refine lv_iload_n hx hb dX0_isVertex_4 rfl (lv_at hl 1 rfl) ?_
    refine lv_aload_n hx hb dX0_isVertex_5 rfl (lv_at hl 0 rfl) ?_
    refine c_get (u := u) hx hb hts hin hown hK hP 3 (by decide) rfl hf_20 (.int (c_n u)) rfl dX0_isVertex_6 ?_
    refine lv_icmp_ge (tgt := 16) hx hb dX0_isVertex_9 (by decide) (fun c2 => ?_) (fun c2 => ?_)
    · refine lv_iconst (v := 0) hx hb dX0_isVertex_16 (by decide) ?_
      exact W.zret (ty := .boolean) (v := 0) hx hb hr rfl (fun t ht hW => ⟨⟨0, u, rfl, ⟨by simp only [C_isV, if_neg c1, if_pos c2] <;> rfl, rfl⟩, by rw [ht]; exact hP, va_K.moved hW.alike hK, hD⟩, hS.F ht⟩) hS.2.2 dX0_isVertex_17
    · refine lv_iconst (v := 1) hx hb dX0_isVertex_12 (by decide) ?_
      refine lv_goto (tgt := 17) hx hb dX0_isVertex_13 (by decide) ?_
      exact W.zret (ty := .boolean) (v := 1) hx hb hr rfl (fun t ht hW => ⟨⟨1, u, rfl, ⟨by simp only [C_isV, if_neg c1, if_neg c2] <;> rfl, rfl⟩, by rw [ht]; exact hP, va_K.moved hW.alike hK, hD⟩, hS.F ht⟩) hS.2.2 dX0_isVertex_17

set_option maxHeartbeats 4000000 in
set_option maxRecDepth 100000 in
/-- isPart -/
theorem t_X0_isPart (l : Launch) (D : va_G) (ki : Nat → ClassId) (g : Nat → Nat) (u : CS) (sz : Nat) (v : Int32)  : gMi l yX0_isPart wsX0_isPart ({ frames := 0, cells := 0, slots := 0, locals := 0 }) D (cw ki g) (cty ki) u sz [.ref (g 0), .int v] (fun r u' => r = b2 (C_isV (c_k u) v) ∧ u' = u) := by
  refine g_ofi (cc := cX0_isPart) (maxL := 2) (ret := some .boolean) (own := RX0) (by decide) rfl rfl ?_
  intro p e s m below meth c A hx hb hr hlocks hml hts hown hK hD hA H locs hP hS
  have hl := lv_entry ([.ref (g 0), .int v]) (n := 2) (Nat.le_of_ble_eq_true rfl)
  rw [lg_entry_eq]
  generalize (lg_sl ([.ref (g 0), .int v]) ++ List.replicate (2 - (lg_sl ([.ref (g 0), .int v])).length) Slot.unset).toArray = ls at hl ⊢
  have hl : lv_has ls 2 [(0, .ref (g 0)), (1, .int v)] := hl
  have hf_27 := hts (.fieldLink RX0 27 "StepGraph" "partCount" "I") (by decide +kernel)
  have hin : ∀ w ∈ wsX00, w ∈ wsX0_isPart := by decide +kernel
  refine lv_iload_n hx hb dX0_isPart_0 rfl (lv_at hl 1 rfl) ?_
  refine lv_if_lt (tgt := 16) hx hb dX0_isPart_1 (by decide) (fun c1 => ?_) (fun c1 => ?_)
  · refine lv_iconst (v := 0) hx hb dX0_isPart_16 (by decide) ?_
    exact W.zret (ty := .boolean) (v := 0) hx hb hr rfl (fun t ht hW => ⟨⟨0, u, rfl, ⟨by simp only [C_isV, if_pos c1] <;> rfl, rfl⟩, by rw [ht]; exact hP, va_K.moved hW.alike hK, hD⟩, hS.F ht⟩) hS.2.2 dX0_isPart_17
  · refine lv_iload_n hx hb dX0_isPart_4 rfl (lv_at hl 1 rfl) ?_
    refine lv_aload_n hx hb dX0_isPart_5 rfl (lv_at hl 0 rfl) ?_
    refine c_get (u := u) hx hb hts hin hown hK hP 5 (by decide) rfl hf_27 (.int (c_k u)) rfl dX0_isPart_6 ?_
    refine lv_icmp_ge (tgt := 16) hx hb dX0_isPart_9 (by decide) (fun c2 => ?_) (fun c2 => ?_)
    · refine lv_iconst (v := 0) hx hb dX0_isPart_16 (by decide) ?_
      exact W.zret (ty := .boolean) (v := 0) hx hb hr rfl (fun t ht hW => ⟨⟨0, u, rfl, ⟨by simp only [C_isV, if_neg c1, if_pos c2] <;> rfl, rfl⟩, by rw [ht]; exact hP, va_K.moved hW.alike hK, hD⟩, hS.F ht⟩) hS.2.2 dX0_isPart_17
    · refine lv_iconst (v := 1) hx hb dX0_isPart_12 (by decide) ?_
      refine lv_goto (tgt := 17) hx hb dX0_isPart_13 (by decide) ?_
      exact W.zret (ty := .boolean) (v := 1) hx hb hr rfl (fun t ht hW => ⟨⟨1, u, rfl, ⟨by simp only [C_isV, if_neg c1, if_neg c2] <;> rfl, rfl⟩, by rw [ht]; exact hP, va_K.moved hW.alike hK, hD⟩, hS.F ht⟩) hS.2.2 dX0_isPart_17

set_option maxHeartbeats 4000000 in
set_option maxRecDepth 100000 in
/-- partOf -/
theorem t_X0_partOf (l : Launch) (D : va_G) (ki : Nat → ClassId) (g : Nat → Nat) (u : CS) (sz : Nat) (f k : Nat) (hk : c_k u = nI k) (hk1 : 0 < k) (hk4 : k ≤ 4) (hf : f < 12) : gMi l yX0_partOf wsX0_partOf ({ frames := 0, cells := 0, slots := 0, locals := 0 }) D (cw ki g) (cty ki) u sz [.ref (g 0), .int (nI f)] (fun r u' => r = nI (f % k) ∧ u' = u) := by
  refine g_ofi (cc := cX0_partOf) (maxL := 2) (ret := some .int) (own := RX0) (by decide) rfl rfl ?_
  intro p e s m below meth c A hx hb hr hlocks hml hts hown hK hD hA H locs hP hS
  have hl := lv_entry ([.ref (g 0), .int (nI f)]) (n := 2) (Nat.le_of_ble_eq_true rfl)
  rw [lg_entry_eq]
  generalize (lg_sl ([.ref (g 0), .int (nI f)]) ++ List.replicate (2 - (lg_sl ([.ref (g 0), .int (nI f)])).length) Slot.unset).toArray = ls at hl ⊢
  have hl : lv_has ls 2 [(0, .ref (g 0)), (1, .int (nI f))] := hl
  have hf_27 := hts (.fieldLink RX0 27 "StepGraph" "partCount" "I") (by decide +kernel)
  have hin : ∀ w ∈ wsX00, w ∈ wsX0_partOf := by decide +kernel
  refine lv_iload_n hx hb dX0_partOf_0 rfl (lv_at hl 1 rfl) ?_
  refine lv_aload_n hx hb dX0_partOf_1 rfl (lv_at hl 0 rfl) ?_
  refine c_get (u := u) hx hb hts hin hown hK hP 5 (by decide) rfl hf_27 (.int (nI k)) (congrArg (fun z => some (Value.int z)) hk) dX0_partOf_2 ?_
  refine lv_irem hx hb dX0_partOf_5 (nI_ne0 hk1 (by omega)) ?_
  exact W.iret (v := (nI f) - (nI f) / (nI k) * (nI k)) hx hb hr (fun t ht hW => ⟨⟨((nI f) - (nI f) / (nI k) * (nI k)), u, rfl, ⟨pk_rem (by omega) hk1 (by omega), rfl⟩, by rw [ht]; exact hP, va_K.moved hW.alike hK, hD⟩, hS.F ht⟩) hS.2.2 dX0_partOf_6

set_option maxHeartbeats 4000000 in
set_option maxRecDepth 100000 in
/-- endRun -/
theorem t_X0_endRun (l : Launch) (D : va_G) (ki : Nat → ClassId) (g : Nat → Nat) (u : CS) (sz : Nat)   : gMv l yX0_endRun wsX0_endRun ({ frames := 0, cells := 0, slots := 0, locals := 0 }) D (cw ki g) (cty ki) u sz [.ref (g 0)] (fun u' => u' = C_end u) := by
  refine g_ofv (cc := cX0_endRun) (maxL := 1) (ret := none) (own := RX0) (by decide) rfl rfl ?_
  intro p e s m below meth c A hx hb hr hlocks hml hts hown hK hD hA H locs hP hS
  have hl := lv_entry ([.ref (g 0)]) (n := 1) (Nat.le_of_ble_eq_true rfl)
  rw [lg_entry_eq]
  generalize (lg_sl ([.ref (g 0)]) ++ List.replicate (1 - (lg_sl ([.ref (g 0)])).length) Slot.unset).toArray = ls at hl ⊢
  have hl : lv_has ls 1 [(0, .ref (g 0))] := hl
  have hf_42 := hts (.fieldLink RX0 42 "StepGraph" "running" "Z") (by decide +kernel)
  have hf_49 := hts (.fieldLink RX0 49 "StepGraph" "waitingCount" "I") (by decide +kernel)
  have hf_52 := hts (.fieldLink RX0 52 "StepGraph" "stepCount" "I") (by decide +kernel)
  have hf_55 := hts (.fieldLink RX0 55 "StepGraph" "sentCount" "I") (by decide +kernel)
  have hf_58 := hts (.fieldLink RX0 58 "StepGraph" "deliveredCount" "I") (by decide +kernel)
  have hf_61 := hts (.fieldLink RX0 61 "StepGraph" "crossedCount" "I") (by decide +kernel)
  have hin : ∀ w ∈ wsX00, w ∈ wsX0_endRun := by decide +kernel
  refine lv_aload_n hx hb dX0_endRun_0 rfl (lv_at hl 0 rfl) ?_
  refine lv_iconst (v := 0) hx hb dX0_endRun_1 (by decide) ?_
  refine c_put (u := u) hx hb hts hin hown hK hP hD hS 9 (by decide) rfl rfl hf_42 .boolean (by decide +kernel) rfl rfl (cs_ru u 0) rfl dX0_endRun_2 (fun H locs hP hD hS => ?_)
  refine lv_aload_n hx hb dX0_endRun_5 rfl (lv_at hl 0 rfl) ?_
  refine lv_iconst (v := 0) hx hb dX0_endRun_6 (by decide) ?_
  refine c_put (u := cs_ru u 0) hx hb hts hin hown hK hP hD hS 11 (by decide) rfl rfl hf_49 .int (by decide +kernel) rfl rfl (cs_wc (cs_ru u 0) 0) rfl dX0_endRun_7 (fun H locs hP hD hS => ?_)
  refine lv_aload_n hx hb dX0_endRun_10 rfl (lv_at hl 0 rfl) ?_
  refine lv_iconst (v := 0) hx hb dX0_endRun_11 (by decide) ?_
  refine c_put (u := cs_wc (cs_ru u 0) 0) hx hb hts hin hown hK hP hD hS 12 (by decide) rfl rfl hf_52 .int (by decide +kernel) rfl rfl (cs_sc (cs_wc (cs_ru u 0) 0) 0) rfl dX0_endRun_12 (fun H locs hP hD hS => ?_)
  refine lv_aload_n hx hb dX0_endRun_15 rfl (lv_at hl 0 rfl) ?_
  refine lv_iconst (v := 0) hx hb dX0_endRun_16 (by decide) ?_
  refine c_put (u := cs_sc (cs_wc (cs_ru u 0) 0) 0) hx hb hts hin hown hK hP hD hS 13 (by decide) rfl rfl hf_55 .int (by decide +kernel) rfl rfl (cs_se (cs_sc (cs_wc (cs_ru u 0) 0) 0) 0) rfl dX0_endRun_17 (fun H locs hP hD hS => ?_)
  refine lv_aload_n hx hb dX0_endRun_20 rfl (lv_at hl 0 rfl) ?_
  refine lv_iconst (v := 0) hx hb dX0_endRun_21 (by decide) ?_
  refine c_put (u := cs_se (cs_sc (cs_wc (cs_ru u 0) 0) 0) 0) hx hb hts hin hown hK hP hD hS 14 (by decide) rfl rfl hf_58 .int (by decide +kernel) rfl rfl (cs_de (cs_se (cs_sc (cs_wc (cs_ru u 0) 0) 0) 0) 0) rfl dX0_endRun_22 (fun H locs hP hD hS => ?_)
  refine lv_aload_n hx hb dX0_endRun_25 rfl (lv_at hl 0 rfl) ?_
  refine lv_iconst (v := 0) hx hb dX0_endRun_26 (by decide) ?_
  refine c_put (u := cs_de (cs_se (cs_sc (cs_wc (cs_ru u 0) 0) 0) 0) 0) hx hb hts hin hown hK hP hD hS 15 (by decide) rfl rfl hf_61 .int (by decide +kernel) rfl rfl (cs_cr (cs_de (cs_se (cs_sc (cs_wc (cs_ru u 0) 0) 0) 0) 0) 0) rfl dX0_endRun_27 (fun H locs hP hD hS => ?_)
  exact W.vret hx hb hr (fun t ht hW => ⟨⟨(cs_cr (cs_de (cs_se (cs_sc (cs_wc (cs_ru u 0) 0) 0) 0) 0) 0), rfl, rfl, by rw [ht]; exact hP, va_K.moved hW.alike hK, hD⟩, hS.F ht⟩) hS.2.2 dX0_endRun_30

set_option maxHeartbeats 4000000 in
set_option maxRecDepth 100000 in
/-- firstValue -/
theorem t_X0_firstValue (l : Launch) (D : va_G) (ki : Nat → ClassId) (g : Nat → Nat) (u : CS) (sz : Nat) (v so : Int32)  : gMd l yX0_firstValue wsX0_firstValue ({ frames := 0, cells := 0, slots := 0, locals := 0 }) D (cw ki g) (cty ki) u sz [.ref (g 0), .int v, .int so] (fun r u' => r = C_first (c_pr u) v so ∧ u' = u) := by
  refine g_ofd (cc := cX0_firstValue) (maxL := 3) (ret := some .double) (own := RX0) (by decide) rfl rfl ?_
  intro p e s m below meth c A hx hb hr hlocks hml hts hown hK hD hA H locs hP hS
  have hl := lv_entry ([.ref (g 0), .int v, .int so]) (n := 3) (Nat.le_of_ble_eq_true rfl)
  rw [lg_entry_eq]
  generalize (lg_sl ([.ref (g 0), .int v, .int so]) ++ List.replicate (3 - (lg_sl ([.ref (g 0), .int v, .int so])).length) Slot.unset).toArray = ls at hl ⊢
  have hl : lv_has ls 3 [(0, .ref (g 0)), (1, .int v), (2, .int so)] := hl
  have hf_46 := hts (.fieldLink RX0 46 "StepGraph" "runProgram" "I") (by decide +kernel)
  have hk_88 := hts (.constantDouble RX0 88 (13830554455654793216)) (by decide +kernel)
  have hk_107 := hts (.constantDouble RX0 107 (4696837146684686336)) (by decide +kernel)
  have hin : ∀ w ∈ wsX00, w ∈ wsX0_firstValue := by decide +kernel
  refine lv_aload_n hx hb dX0_firstValue_0 rfl (lv_at hl 0 rfl) ?_
  refine c_get (u := u) hx hb hts hin hown hK hP 10 (by decide) rfl hf_46 (.int (c_pr u)) rfl dX0_firstValue_1 ?_
  refine lv_iconst (v := 1) hx hb dX0_firstValue_4 (by decide) ?_
  refine lv_icmp_ne (tgt := 11) hx hb dX0_firstValue_5 (by decide) (fun c1 => ?_) (fun c1 => ?_)
  · refine lv_iload_n hx hb dX0_firstValue_11 rfl (lv_at hl 1 rfl) ?_
    refine lv_iload_n hx hb dX0_firstValue_12 rfl (lv_at hl 2 rfl) ?_
    refine lv_icmp_eq (tgt := 20) hx hb dX0_firstValue_13 (by decide) (fun c2 => ?_) (fun c2 => ?_)
    · refine lv_aload_n hx hb dX0_firstValue_20 rfl (lv_at hl 0 rfl) ?_
      refine c_get (u := u) hx hb hts hin hown hK hP 10 (by decide) rfl hf_46 (.int (c_pr u)) rfl dX0_firstValue_21 ?_
      refine lv_iconst (v := 3) hx hb dX0_firstValue_24 (by decide) ?_
      refine lv_icmp_ne (tgt := 34) hx hb dX0_firstValue_25 (by decide) (fun c3 => ?_) (fun c3 => ?_)
      · refine lv_dconst0 hx hb dX0_firstValue_34 ?_
        exact W.dret (v := D0) hx hb hr (fun t ht hW => ⟨⟨D0, u, rfl, ⟨by simp only [C_first, if_neg c1, if_pos c2, if_neg c3] <;> rfl, rfl⟩, by rw [ht]; exact hP, va_K.moved hW.alike hK, hD⟩, hS.F ht⟩) hS.2.2 dX0_firstValue_35
      · refine lv_ldc2d hx hb hown hk_107 dX0_firstValue_28 ?_
        refine lv_goto (tgt := 35) hx hb dX0_firstValue_31 (by decide) ?_
        exact W.dret (v := MX) hx hb hr (fun t ht hW => ⟨⟨MX, u, rfl, ⟨by simp only [C_first, if_neg c1, if_pos c2, if_pos c3] <;> rfl, rfl⟩, by rw [ht]; exact hP, va_K.moved hW.alike hK, hD⟩, hS.F ht⟩) hS.2.2 dX0_firstValue_35
    · refine lv_ldc2d hx hb hown hk_88 dX0_firstValue_16 ?_
      exact W.dret (v := NN) hx hb hr (fun t ht hW => ⟨⟨NN, u, rfl, ⟨by simp only [C_first, if_neg c1, if_neg c2] <;> rfl, rfl⟩, by rw [ht]; exact hP, va_K.moved hW.alike hK, hD⟩, hS.F ht⟩) hS.2.2 dX0_firstValue_19
  · refine lv_iload_n hx hb dX0_firstValue_8 rfl (lv_at hl 1 rfl) ?_
    refine lv_i2d hx hb dX0_firstValue_9 ?_
    exact W.dret (v := FP.i2d v) hx hb hr (fun t ht hW => ⟨⟨(FP.i2d v), u, rfl, ⟨by simp only [C_first, if_pos c1] <;> rfl, rfl⟩, by rw [ht]; exact hP, va_K.moved hW.alike hK, hD⟩, hS.F ht⟩) hS.2.2 dX0_firstValue_10

set_option maxHeartbeats 4000000 in
set_option maxRecDepth 100000 in
/-- messageOf -/
theorem t_X0_messageOf (l : Launch) (D : va_G) (ki : Nat → ClassId) (g : Nat → Nat) (u : CS) (sz : Nat) (x w : UInt64) (h0 : vf_n64 (FP.dadd x w)) (h2 : vf_n64 (FP.dadd x D1)) : gMd l yX0_messageOf wsX0_messageOf ({ frames := 0, cells := 0, slots := 0, locals := 0 }) D (cw ki g) (cty ki) u sz [.ref (g 0), .double x, .double w] (fun r u' => r = C_msg (c_pr u) x w ∧ u' = u) := by
  refine g_ofd (cc := cX0_messageOf) (maxL := 5) (ret := some .double) (own := RX0) (by decide) rfl rfl ?_
  intro p e s m below meth c A hx hb hr hlocks hml hts hown hK hD hA H locs hP hS
  have hl := lv_entry ([.ref (g 0), .double x, .double w]) (n := 5) (Nat.le_of_ble_eq_true rfl)
  rw [lg_entry_eq]
  generalize (lg_sl ([.ref (g 0), .double x, .double w]) ++ List.replicate (5 - (lg_sl ([.ref (g 0), .double x, .double w])).length) Slot.unset).toArray = ls at hl ⊢
  have hl : lv_has ls 5 [(0, .ref (g 0)), (1, .double x), (3, .double w)] := hl
  have hf_46 := hts (.fieldLink RX0 46 "StepGraph" "runProgram" "I") (by decide +kernel)
  have hin : ∀ w ∈ wsX00, w ∈ wsX0_messageOf := by decide +kernel
  refine lv_aload_n hx hb dX0_messageOf_0 rfl (lv_at hl 0 rfl) ?_
  refine c_get (u := u) hx hb hts hin hown hK hP 10 (by decide) rfl hf_46 (.int (c_pr u)) rfl dX0_messageOf_1 ?_
  refine lv_if_ne (tgt := 11) hx hb dX0_messageOf_4 (by decide) (fun c1 => ?_) (fun c1 => ?_)
  · refine lv_aload_n hx hb dX0_messageOf_11 rfl (lv_at hl 0 rfl) ?_
    refine c_get (u := u) hx hb hts hin hown hK hP 10 (by decide) rfl hf_46 (.int (c_pr u)) rfl dX0_messageOf_12 ?_
    refine lv_iconst (v := 1) hx hb dX0_messageOf_15 (by decide) ?_
    refine lv_icmp_ne (tgt := 21) hx hb dX0_messageOf_16 (by decide) (fun c2 => ?_) (fun c2 => ?_)
    · refine lv_aload_n hx hb dX0_messageOf_21 rfl (lv_at hl 0 rfl) ?_
      refine c_get (u := u) hx hb hts hin hown hK hP 10 (by decide) rfl hf_46 (.int (c_pr u)) rfl dX0_messageOf_22 ?_
      refine lv_iconst (v := 2) hx hb dX0_messageOf_25 (by decide) ?_
      refine lv_icmp_ne (tgt := 33) hx hb dX0_messageOf_26 (by decide) (fun c3 => ?_) (fun c3 => ?_)
      · refine lv_dload_n hx hb dX0_messageOf_33 rfl (lv_at hl 1 rfl) ?_
        refine lv_dload_n hx hb dX0_messageOf_34 rfl (lv_at hl 2 rfl) ?_
        refine k_dcmpg hx hb dX0_messageOf_35 ?_
        refine lv_if_gt (tgt := 43) hx hb dX0_messageOf_36 (by decide) (fun c4 => ?_) (fun c4 => ?_)
        · refine lv_dload_n hx hb dX0_messageOf_43 rfl (lv_at hl 2 rfl) ?_
          exact W.dret (v := w) hx hb hr (fun t ht hW => ⟨⟨w, u, rfl, ⟨by simp only [C_msg, if_neg c1, if_neg c2, if_neg c3, if_pos c4] <;> rfl, rfl⟩, by rw [ht]; exact hP, va_K.moved hW.alike hK, hD⟩, hS.F ht⟩) hS.2.2 dX0_messageOf_44
        · refine lv_dload_n hx hb dX0_messageOf_39 rfl (lv_at hl 1 rfl) ?_
          refine lv_goto (tgt := 44) hx hb dX0_messageOf_40 (by decide) ?_
          exact W.dret (v := x) hx hb hr (fun t ht hW => ⟨⟨x, u, rfl, ⟨by simp only [C_msg, if_neg c1, if_neg c2, if_neg c3, if_neg c4] <;> rfl, rfl⟩, by rw [ht]; exact hP, va_K.moved hW.alike hK, hD⟩, hS.F ht⟩) hS.2.2 dX0_messageOf_44
      · refine lv_dload_n hx hb dX0_messageOf_29 rfl (lv_at hl 1 rfl) ?_
        refine lv_dconst1 hx hb dX0_messageOf_30 ?_
        refine lv_dadd hx hb dX0_messageOf_31 h2 ?_
        exact W.dret (v := FP.dadd x D1) hx hb hr (fun t ht hW => ⟨⟨(FP.dadd x D1), u, rfl, ⟨by simp only [C_msg, if_neg c1, if_neg c2, if_pos c3] <;> rfl, rfl⟩, by rw [ht]; exact hP, va_K.moved hW.alike hK, hD⟩, hS.F ht⟩) hS.2.2 dX0_messageOf_32
    · refine lv_dload_n hx hb dX0_messageOf_19 rfl (lv_at hl 1 rfl) ?_
      exact W.dret (v := x) hx hb hr (fun t ht hW => ⟨⟨x, u, rfl, ⟨by simp only [C_msg, if_neg c1, if_pos c2] <;> rfl, rfl⟩, by rw [ht]; exact hP, va_K.moved hW.alike hK, hD⟩, hS.F ht⟩) hS.2.2 dX0_messageOf_20
  · refine lv_dload_n hx hb dX0_messageOf_7 rfl (lv_at hl 1 rfl) ?_
    refine lv_dload_n hx hb dX0_messageOf_8 rfl (lv_at hl 2 rfl) ?_
    refine lv_dadd hx hb dX0_messageOf_9 h0 ?_
    exact W.dret (v := FP.dadd x w) hx hb hr (fun t ht hW => ⟨⟨(FP.dadd x w), u, rfl, ⟨by simp only [C_msg, if_pos c1] <;> rfl, rfl⟩, by rw [ht]; exact hP, va_K.moved hW.alike hK, hD⟩, hS.F ht⟩) hS.2.2 dX0_messageOf_10

set_option maxHeartbeats 4000000 in
set_option maxRecDepth 100000 in
/-- isBetter -/
theorem t_X0_isBetter (l : Launch) (D : va_G) (ki : Nat → ClassId) (g : Nat → Nat) (u : CS) (sz : Nat) (x y : UInt64)  : gMi l yX0_isBetter wsX0_isBetter ({ frames := 0, cells := 0, slots := 0, locals := 0 }) D (cw ki g) (cty ki) u sz [.ref (g 0), .double x, .double y] (fun r u' => r = b2 (C_bet (c_pr u) x y) ∧ u' = u) := by
  refine g_ofi (cc := cX0_isBetter) (maxL := 5) (ret := some .boolean) (own := RX0) (by decide) rfl rfl ?_
  intro p e s m below meth c A hx hb hr hlocks hml hts hown hK hD hA H locs hP hS
  have hl := lv_entry ([.ref (g 0), .double x, .double y]) (n := 5) (Nat.le_of_ble_eq_true rfl)
  rw [lg_entry_eq]
  generalize (lg_sl ([.ref (g 0), .double x, .double y]) ++ List.replicate (5 - (lg_sl ([.ref (g 0), .double x, .double y])).length) Slot.unset).toArray = ls at hl ⊢
  have hl : lv_has ls 5 [(0, .ref (g 0)), (1, .double x), (3, .double y)] := hl
  have hf_46 := hts (.fieldLink RX0 46 "StepGraph" "runProgram" "I") (by decide +kernel)
  have hk_88 := hts (.constantDouble RX0 88 (13830554455654793216)) (by decide +kernel)
  have hin : ∀ w ∈ wsX00, w ∈ wsX0_isBetter := by decide +kernel
  refine lv_dload_n hx hb dX0_isBetter_0 rfl (lv_at hl 1 rfl) ?_
  refine lv_ldc2d hx hb hown hk_88 dX0_isBetter_1 ?_
  refine k_dcmpl hx hb dX0_isBetter_4 ?_
  refine lv_if_ne (tgt := 10) hx hb dX0_isBetter_5 (by decide) (fun c1 => ?_) (fun c1 => ?_)
  · refine lv_dload_n hx hb dX0_isBetter_10 rfl (lv_at hl 2 rfl) ?_
    refine lv_ldc2d hx hb hown hk_88 dX0_isBetter_11 ?_
    refine k_dcmpl hx hb dX0_isBetter_14 ?_
    refine lv_if_ne (tgt := 20) hx hb dX0_isBetter_15 (by decide) (fun c2 => ?_) (fun c2 => ?_)
    · refine lv_aload_n hx hb dX0_isBetter_20 rfl (lv_at hl 0 rfl) ?_
      refine c_get (u := u) hx hb hts hin hown hK hP 10 (by decide) rfl hf_46 (.int (c_pr u)) rfl dX0_isBetter_21 ?_
      refine lv_iconst (v := 3) hx hb dX0_isBetter_24 (by decide) ?_
      refine lv_icmp_ne (tgt := 42) hx hb dX0_isBetter_25 (by decide) (fun c3 => ?_) (fun c3 => ?_)
      · refine lv_dload_n hx hb dX0_isBetter_42 rfl (lv_at hl 1 rfl) ?_
        refine lv_dload_n hx hb dX0_isBetter_43 rfl (lv_at hl 2 rfl) ?_
        refine k_dcmpg hx hb dX0_isBetter_44 ?_
        refine lv_if_ge (tgt := 52) hx hb dX0_isBetter_45 (by decide) (fun c4 => ?_) (fun c4 => ?_)
        · refine lv_iconst (v := 0) hx hb dX0_isBetter_52 (by decide) ?_
          exact W.zret (ty := .boolean) (v := 0) hx hb hr rfl (fun t ht hW => ⟨⟨0, u, rfl, ⟨by simp only [C_bet, if_neg c1, if_neg c2, if_neg c3, if_pos c4] <;> rfl, rfl⟩, by rw [ht]; exact hP, va_K.moved hW.alike hK, hD⟩, hS.F ht⟩) hS.2.2 dX0_isBetter_53
        · refine lv_iconst (v := 1) hx hb dX0_isBetter_48 (by decide) ?_
          refine lv_goto (tgt := 53) hx hb dX0_isBetter_49 (by decide) ?_
          exact W.zret (ty := .boolean) (v := 1) hx hb hr rfl (fun t ht hW => ⟨⟨1, u, rfl, ⟨by simp only [C_bet, if_neg c1, if_neg c2, if_neg c3, if_neg c4] <;> rfl, rfl⟩, by rw [ht]; exact hP, va_K.moved hW.alike hK, hD⟩, hS.F ht⟩) hS.2.2 dX0_isBetter_53
      · refine lv_dload_n hx hb dX0_isBetter_28 rfl (lv_at hl 1 rfl) ?_
        refine lv_dload_n hx hb dX0_isBetter_29 rfl (lv_at hl 2 rfl) ?_
        refine k_dcmpl hx hb dX0_isBetter_30 ?_
        refine lv_if_le (tgt := 38) hx hb dX0_isBetter_31 (by decide) (fun c5 => ?_) (fun c5 => ?_)
        · refine lv_iconst (v := 0) hx hb dX0_isBetter_38 (by decide) ?_
          refine lv_goto (tgt := 53) hx hb dX0_isBetter_39 (by decide) ?_
          exact W.zret (ty := .boolean) (v := 0) hx hb hr rfl (fun t ht hW => ⟨⟨0, u, rfl, ⟨by simp only [C_bet, if_neg c1, if_neg c2, if_pos c3, if_pos c5] <;> rfl, rfl⟩, by rw [ht]; exact hP, va_K.moved hW.alike hK, hD⟩, hS.F ht⟩) hS.2.2 dX0_isBetter_53
        · refine lv_iconst (v := 1) hx hb dX0_isBetter_34 (by decide) ?_
          refine lv_goto (tgt := 53) hx hb dX0_isBetter_35 (by decide) ?_
          exact W.zret (ty := .boolean) (v := 1) hx hb hr rfl (fun t ht hW => ⟨⟨1, u, rfl, ⟨by simp only [C_bet, if_neg c1, if_neg c2, if_pos c3, if_neg c5] <;> rfl, rfl⟩, by rw [ht]; exact hP, va_K.moved hW.alike hK, hD⟩, hS.F ht⟩) hS.2.2 dX0_isBetter_53
    · refine lv_iconst (v := 1) hx hb dX0_isBetter_18 (by decide) ?_
      exact W.zret (ty := .boolean) (v := 1) hx hb hr rfl (fun t ht hW => ⟨⟨1, u, rfl, ⟨by simp only [C_bet, if_neg c1, if_pos c2] <;> rfl, rfl⟩, by rw [ht]; exact hP, va_K.moved hW.alike hK, hD⟩, hS.F ht⟩) hS.2.2 dX0_isBetter_19
  · refine lv_iconst (v := 0) hx hb dX0_isBetter_8 (by decide) ?_
    exact W.zret (ty := .boolean) (v := 0) hx hb hr rfl (fun t ht hW => ⟨⟨0, u, rfl, ⟨by simp only [C_bet, if_pos c1] <;> rfl, rfl⟩, by rw [ht]; exact hP, va_K.moved hW.alike hK, hD⟩, hS.F ht⟩) hS.2.2 dX0_isBetter_9

set_option maxHeartbeats 4000000 in
set_option maxRecDepth 100000 in
/-- steps -/
theorem t_X0_steps (l : Launch) (D : va_G) (ki : Nat → ClassId) (g : Nat → Nat) (u : CS) (sz : Nat)   : gMi l yX0_steps wsX0_steps ({ frames := 0, cells := 0, slots := 0, locals := 0 }) D (cw ki g) (cty ki) u sz [.ref (g 0)] (fun r u' => r = c_sc u ∧ u' = u) := by
  refine g_ofi (cc := cX0_steps) (maxL := 1) (ret := some .int) (own := RX0) (by decide) rfl rfl ?_
  intro p e s m below meth c A hx hb hr hlocks hml hts hown hK hD hA H locs hP hS
  have hl := lv_entry ([.ref (g 0)]) (n := 1) (Nat.le_of_ble_eq_true rfl)
  rw [lg_entry_eq]
  generalize (lg_sl ([.ref (g 0)]) ++ List.replicate (1 - (lg_sl ([.ref (g 0)])).length) Slot.unset).toArray = ls at hl ⊢
  have hl : lv_has ls 1 [(0, .ref (g 0))] := hl
  have hf_52 := hts (.fieldLink RX0 52 "StepGraph" "stepCount" "I") (by decide +kernel)
  have hin : ∀ w ∈ wsX00, w ∈ wsX0_steps := by decide +kernel
  refine lv_aload_n hx hb dX0_steps_0 rfl (lv_at hl 0 rfl) ?_
  refine c_get (u := u) hx hb hts hin hown hK hP 12 (by decide) rfl hf_52 (.int (c_sc u)) rfl dX0_steps_1 ?_
  exact W.iret (v := c_sc u) hx hb hr (fun t ht hW => ⟨⟨(c_sc u), u, rfl, ⟨rfl, rfl⟩, by rw [ht]; exact hP, va_K.moved hW.alike hK, hD⟩, hS.F ht⟩) hS.2.2 dX0_steps_4

set_option maxHeartbeats 4000000 in
set_option maxRecDepth 100000 in
/-- sent -/
theorem t_X0_sent (l : Launch) (D : va_G) (ki : Nat → ClassId) (g : Nat → Nat) (u : CS) (sz : Nat)   : gMi l yX0_sent wsX0_sent ({ frames := 0, cells := 0, slots := 0, locals := 0 }) D (cw ki g) (cty ki) u sz [.ref (g 0)] (fun r u' => r = c_se u ∧ u' = u) := by
  refine g_ofi (cc := cX0_sent) (maxL := 1) (ret := some .int) (own := RX0) (by decide) rfl rfl ?_
  intro p e s m below meth c A hx hb hr hlocks hml hts hown hK hD hA H locs hP hS
  have hl := lv_entry ([.ref (g 0)]) (n := 1) (Nat.le_of_ble_eq_true rfl)
  rw [lg_entry_eq]
  generalize (lg_sl ([.ref (g 0)]) ++ List.replicate (1 - (lg_sl ([.ref (g 0)])).length) Slot.unset).toArray = ls at hl ⊢
  have hl : lv_has ls 1 [(0, .ref (g 0))] := hl
  have hf_55 := hts (.fieldLink RX0 55 "StepGraph" "sentCount" "I") (by decide +kernel)
  have hin : ∀ w ∈ wsX00, w ∈ wsX0_sent := by decide +kernel
  refine lv_aload_n hx hb dX0_sent_0 rfl (lv_at hl 0 rfl) ?_
  refine c_get (u := u) hx hb hts hin hown hK hP 13 (by decide) rfl hf_55 (.int (c_se u)) rfl dX0_sent_1 ?_
  exact W.iret (v := c_se u) hx hb hr (fun t ht hW => ⟨⟨(c_se u), u, rfl, ⟨rfl, rfl⟩, by rw [ht]; exact hP, va_K.moved hW.alike hK, hD⟩, hS.F ht⟩) hS.2.2 dX0_sent_4

set_option maxHeartbeats 4000000 in
set_option maxRecDepth 100000 in
/-- delivered -/
theorem t_X0_delivered (l : Launch) (D : va_G) (ki : Nat → ClassId) (g : Nat → Nat) (u : CS) (sz : Nat)   : gMi l yX0_delivered wsX0_delivered ({ frames := 0, cells := 0, slots := 0, locals := 0 }) D (cw ki g) (cty ki) u sz [.ref (g 0)] (fun r u' => r = c_de u ∧ u' = u) := by
  refine g_ofi (cc := cX0_delivered) (maxL := 1) (ret := some .int) (own := RX0) (by decide) rfl rfl ?_
  intro p e s m below meth c A hx hb hr hlocks hml hts hown hK hD hA H locs hP hS
  have hl := lv_entry ([.ref (g 0)]) (n := 1) (Nat.le_of_ble_eq_true rfl)
  rw [lg_entry_eq]
  generalize (lg_sl ([.ref (g 0)]) ++ List.replicate (1 - (lg_sl ([.ref (g 0)])).length) Slot.unset).toArray = ls at hl ⊢
  have hl : lv_has ls 1 [(0, .ref (g 0))] := hl
  have hf_58 := hts (.fieldLink RX0 58 "StepGraph" "deliveredCount" "I") (by decide +kernel)
  have hin : ∀ w ∈ wsX00, w ∈ wsX0_delivered := by decide +kernel
  refine lv_aload_n hx hb dX0_delivered_0 rfl (lv_at hl 0 rfl) ?_
  refine c_get (u := u) hx hb hts hin hown hK hP 14 (by decide) rfl hf_58 (.int (c_de u)) rfl dX0_delivered_1 ?_
  exact W.iret (v := c_de u) hx hb hr (fun t ht hW => ⟨⟨(c_de u), u, rfl, ⟨rfl, rfl⟩, by rw [ht]; exact hP, va_K.moved hW.alike hK, hD⟩, hS.F ht⟩) hS.2.2 dX0_delivered_4

set_option maxHeartbeats 4000000 in
set_option maxRecDepth 100000 in
/-- crossed -/
theorem t_X0_crossed (l : Launch) (D : va_G) (ki : Nat → ClassId) (g : Nat → Nat) (u : CS) (sz : Nat)   : gMi l yX0_crossed wsX0_crossed ({ frames := 0, cells := 0, slots := 0, locals := 0 }) D (cw ki g) (cty ki) u sz [.ref (g 0)] (fun r u' => r = c_cr u ∧ u' = u) := by
  refine g_ofi (cc := cX0_crossed) (maxL := 1) (ret := some .int) (own := RX0) (by decide) rfl rfl ?_
  intro p e s m below meth c A hx hb hr hlocks hml hts hown hK hD hA H locs hP hS
  have hl := lv_entry ([.ref (g 0)]) (n := 1) (Nat.le_of_ble_eq_true rfl)
  rw [lg_entry_eq]
  generalize (lg_sl ([.ref (g 0)]) ++ List.replicate (1 - (lg_sl ([.ref (g 0)])).length) Slot.unset).toArray = ls at hl ⊢
  have hl : lv_has ls 1 [(0, .ref (g 0))] := hl
  have hf_61 := hts (.fieldLink RX0 61 "StepGraph" "crossedCount" "I") (by decide +kernel)
  have hin : ∀ w ∈ wsX00, w ∈ wsX0_crossed := by decide +kernel
  refine lv_aload_n hx hb dX0_crossed_0 rfl (lv_at hl 0 rfl) ?_
  refine c_get (u := u) hx hb hts hin hown hK hP 15 (by decide) rfl hf_61 (.int (c_cr u)) rfl dX0_crossed_1 ?_
  exact W.iret (v := c_cr u) hx hb hr (fun t ht hW => ⟨⟨(c_cr u), u, rfl, ⟨rfl, rfl⟩, by rw [ht]; exact hP, va_K.moved hW.alike hK, hD⟩, hS.F ht⟩) hS.2.2 dX0_crossed_4
end
