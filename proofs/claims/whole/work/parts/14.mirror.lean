/-! THE MIRRORS: what each method does to its state, as a function. -/
def fo {α : Type} (f : Nat → α → α) : Nat → α → α
  | 0, a => a
  | n + 1, a => f n (fo f n a)
def b2 (b : Bool) : Int32 := if b = true then 1 else 0
theorem b2_0 {b : Bool} (h : b2 b = 0) : ¬ b = true := by cases b <;> simp_all [b2]
theorem b2_1 {b : Bool} (h : ¬ b2 b = 0) : b = true := by cases b <;> simp_all [b2]
theorem b2_nar (b : Bool) : vp_nar .boolean (b2 b) = b2 b := by cases b <;> rfl
theorem nar_0 : vp_nar .boolean 0 = 0 := rfl
theorem nar_1 : vp_nar .boolean 1 = 1 := rfl
abbrev NN : UInt64 := 13830554455654793216
abbrev MX : UInt64 := 4696837146684686336
abbrev D0 : UInt64 := FP.dconst0
abbrev D1 : UInt64 := FP.dconst1
/-- dcmpl, dcmpg -/
def dl (x y : UInt64) : Int32 := Op.cmpValue (FP.dcmp x y) CmpOp.l
def dg (x y : UInt64) : Int32 := Op.cmpValue (FP.dcmp x y) CmpOp.g
/-- an int as a place -/
abbrev tn (x : Int32) : Nat := x.toNatClampNeg
-- the class
def C_isV (n v : Int32) : Bool := if v < 0 then false else if n ≤ v then false else true
def C_isW (w : UInt64) : Bool := if dl w D0 < 0 then false else if 0 < dg w MX then false else true
def C_end (u : CS) : CS := cs_cr (cs_de (cs_se (cs_sc (cs_wc (cs_ru u 0) 0) 0) 0) 0) 0
def C_first (pr v s : Int32) : UInt64 := if pr = 1 then FP.i2d v else if v = s then (if pr = 3 then MX else D0) else NN
def C_msg (pr : Int32) (x w : UInt64) : UInt64 := if pr = 0 then FP.dadd x w else if pr = 1 then x else if pr = 2 then FP.dadd x D1 else if 0 < dg x w then w else x
def C_bet (pr : Int32) (x y : UInt64) : Bool := if dl x NN = 0 then false else if dl y NN = 0 then true else if pr = 3 then (if dl x y ≤ 0 then false else true) else (if 0 ≤ dg x y then false else true)
def C_bs (pr : Int32) (row : Nat → UInt64) (p : Nat) (b : UInt64) : UInt64 := if C_bet pr (row p) b = true then row p else b
def C_best (pr : Int32) (k : Nat) (row : Nat → UInt64) : UInt64 := fo (C_bs pr row) k NN
abbrev QS : Type := Int32 × Int32 × Int32 × Int32 × (Nat → Nat → UInt64)
def c_q (u : CS) : QS := (c_wc u, c_se u, c_de u, c_cr u, c_wa u)
def cs_q (u : CS) (q : QS) : CS := cs_wa (cs_cr (cs_de (cs_se (cs_wc u q.1) q.2.1) q.2.2.1) q.2.2.2.1) q.2.2.2.2
def C_cnt (k part to : Nat) (q : QS) : QS := (q.1 + 1, q.2.1, q.2.2.1 + 1, (if to % k = part then q.2.2.2.1 else q.2.2.2.1 + 1), q.2.2.2.2)
def C_put (pr : Int32) (to part : Nat) (m : UInt64) (q : QS) : QS := if C_bet pr m (q.2.2.2.2 to part) = true then (q.1, q.2.1, q.2.2.1, q.2.2.2.1, up2 q.2.2.2.2 to part m) else q
def C_one (k part to : Nat) (q : QS) : QS := if dl (q.2.2.2.2 to part) NN = 0 then C_cnt k part to q else q
def C_send (pr : Int32) (k : Nat) (sn : Nat → Int32) (va : Nat → UInt64) (fr to : Nat) (w : UInt64) (q : QS) : QS :=
  if sn fr = 0 then q else C_put pr to (fr % k) (C_msg pr (va fr) w) (C_one k (fr % k) to (q.1, q.2.1 + 1, q.2.2.1, q.2.2.2.1, q.2.2.2.2))
def C_clr (n k : Nat) (wa : Nat → Nat → UInt64) : Nat → Nat → UInt64 := fo (fun v wa => fo (fun p wa => up2 wa v p NN) k wa) n wa
def C_edge2 (pr : Int32) (k : Nat) (sn : Nat → Int32) (va : Nat → UInt64) (fe sd : Nat → Int32) (wt : Nat → UInt64) (e : Nat) (q : QS) : QS :=
  C_send pr k sn va (tn (sd e)) (tn (fe e)) (wt e) (C_send pr k sn va (tn (fe e)) (tn (sd e)) (wt e) q)
def C_eq (n k : Nat) (u : CS) (i : Nat) : QS := fo (C_edge2 (c_pr u) k (c_sn u) (c_va u) (c_fe u) (c_sd u) (c_wt u)) i (0, c_se u, c_de u, c_cr u, C_clr n k (c_wa u))
def C_es (n k ec : Nat) (u : CS) : CS := cs_sc (cs_q u (C_eq n k u ec)) (c_sc u + 1)
abbrev VS : Type := (Nat → UInt64) × (Nat → Int32)
def C_b1 (p s : Int32) (v : Nat) (d : VS) : VS := (vf_upd d.1 v (C_first p (nI v) s), upd d.2 v (if dl (C_first p (nI v) s) NN = 0 then 0 else 1))
def C_bv (u : CS) (p s : Int32) (i : Nat) : VS := fo (C_b1 p s) i (c_va u, c_sn u)
def C_beginS (n : Nat) (u : CS) (p s : Int32) : CS := cs_sn (cs_va (cs_pr (cs_ru (C_end u) 1) p) (C_bv u p s n).1) (C_bv u p s n).2
def C_begin (n k ec : Nat) (u : CS) (p s : Int32) : CS := C_es n k ec (C_beginS n u p s)
abbrev DS : Type := Int32 × (Nat → UInt64) × (Nat → Int32)
def C_d1 (pr : Int32) (k : Nat) (wa : Nat → Nat → UInt64) (v : Nat) (d : DS) : DS :=
  let b := C_best pr k (wa v)
  let t := C_bet pr b (d.2.1 v)
  (if dl b NN = 0 then d.1 else d.1 + 1, if t = true then vf_upd d.2.1 v b else d.2.1, upd d.2.2 v (b2 t))
def C_dv (k : Nat) (u : CS) (i : Nat) : DS := fo (C_d1 (c_pr u) k (c_wa u)) i (0, c_va u, c_sn u)
def C_doS (n k : Nat) (u : CS) : CS := cs_sn (cs_va u (C_dv k u n).2.1) (C_dv k u n).2.2
def C_do (n k ec : Nat) (u : CS) : CS := C_es n k ec (C_doS n k u)
def C_sum (n : Nat) (va : Nat → UInt64) : UInt64 := fo (fun v t => if dl (va v) NN = 0 then t else FP.dadd t (va v)) n D0
def C_deg (v : Int32) (e : Nat) (fe sd : Nat → Int32) : Int32 := fo (fun i x => if fe i = v then x + 1 else if sd i = v then x + 1 else x) e 0
def C_edge (ec : Nat) (u : CS) (a b : Int32) (w : UInt64) : CS :=
  C_end (cs_e (cs_wt (cs_sd (cs_fe u (upd (c_fe u) ec a)) (upd (c_sd u) ec b)) (vf_upd (c_wt u) ec (if dl w D0 ≤ 0 then D0 else w))) (c_e u + 1))
def rng (h v : Int32) : Bool := if v < 1 then false else if v ≤ h then true else false
def C_size (u : CS) (v : Int32) : CS := C_end (cs_e (cs_n u v) 0)
def C_parts (u : CS) (v : Int32) : CS := C_end (cs_k u v)
def C_eok (n e a b : Int32) (w : UInt64) : Bool := if C_isV n a = true then (if C_isV n b = true then (if a = b then false else if C_isW w = true then (if e < 30 then true else false) else false) else false) else false
def C_val (u : CS) (v : Int32) : UInt64 := if c_ru u = 0 then NN else if C_isV (c_n u) v = true then c_va u (tn v) else NN
def C_pend (u : CS) (v p : Int32) : UInt64 := if c_ru u = 0 then NN else if C_isV (c_n u) v = true then (if C_isV (c_k u) p = true then c_wa u (tn v) (tn p) else NN) else NN
def C_over (u : CS) : Bool := if c_ru u = 0 then false else if c_wc u = 0 then true else false
theorem isV_of {n : Nat} {v : Int32} (hn : n < 2 ^ 31) (h : C_isV (nI n) v = true) : ∃ j : Nat, j < n ∧ v = nI j := by
  unfold C_isV at h
  by_cases h1 : v < 0
  · rw [if_pos h1] at h; cases h
  · rw [if_neg h1] at h
    by_cases h2 : nI n ≤ v
    · rw [if_pos h2] at h; cases h
    · rcases pk_ix v hn with q | q | q
      · exact absurd q h1
      · exact absurd q h2
      · exact q
theorem isV_nI {n j : Nat} (hn : n < 2 ^ 31) (h : j < n) : C_isV (nI n) (nI j) = true := by
  unfold C_isV
  rw [if_neg (nI_pos (by omega)), if_neg (nI_ge h hn)]
-- the reference
def zer (n : Nat) (f : Nat → Int32) : Nat → Int32 := fo (fun i f => upd f i 0) n f
def M_forget (u : MS) : MS :=
  ms_cs (ms_kn (ms_cr (ms_de (ms_se (ms_st (ms_bg u 0) 0) 0) 0) 0) (zer 12 (m_kn u))) (zer 48 (m_cs u))
def M_bet (pr : Int32) (x y : UInt64) : Bool := if pr = 3 then (if dl x y ≤ 0 then false else true) else (if 0 ≤ dg x y then false else true)
def M_msg (pr : Int32) (x w : UInt64) : UInt64 := if pr = 0 then FP.dadd x w else if pr = 1 then x else if pr = 2 then FP.dadd x D1 else if 0 ≤ dg x w then w else x
abbrev PS : Type := Int32 × (Nat → UInt64) × (Nat → Int32)
def m_p (u : MS) : PS := (m_se u, m_gn u, m_gs u)
def ms_p (u : MS) (q : PS) : MS := ms_gs (ms_gn (ms_se u q.1) q.2.1) q.2.2
def M_put (pr : Int32) (at_ : Nat) (m : UInt64) (q : PS) : PS :=
  (q.1, (if q.2.2 at_ = 0 then vf_upd q.2.1 at_ m else if M_bet pr m (q.2.1 at_) = true then vf_upd q.2.1 at_ m else q.2.1), upd q.2.2 at_ 1)
def M_send (pr : Int32) (k : Nat) (sp : Nat → Int32) (va : Nat → UInt64) (fr to : Nat) (w : UInt64) (q : PS) : PS :=
  if sp fr = 0 then q else M_put pr (4 * to + fr % k) (M_msg pr (va fr) w) (q.1 + 1, q.2.1, q.2.2)
def M_edge2 (pr : Int32) (k : Nat) (sp : Nat → Int32) (va : Nat → UInt64) (fr to : Nat → Int32) (wt : Nat → UInt64) (e : Nat) (q : PS) : PS :=
  M_send pr k sp va (tn (to e)) (tn (fr e)) (wt e) (M_send pr k sp va (tn (fr e)) (tn (to e)) (wt e) q)
/-- comes, coming, crossed, many -/
abbrev TS : Type := (Nat → Int32) × (Nat → UInt64) × Int32 × Int32
def M_t1 (k : Nat) (gn : Nat → UInt64) (gs : Nat → Int32) (i : Nat) (t : TS) : TS :=
  (upd t.1 i (gs i), vf_upd t.2.1 i (gn i), (if gs i = 0 then t.2.2.1 else if i % 4 = i / 4 % k then t.2.2.1 else t.2.2.1 + 1), (if gs i = 0 then t.2.2.2 else t.2.2.2 + 1))
def M_sp (k : Nat) (u : MS) (i : Nat) : PS := fo (M_edge2 (m_pr u) k (m_sp u) (m_va u) (m_fr u) (m_to u) (m_wt u)) i (m_se u, m_gn u, zer 48 (m_gs u))
def M_st (k ec : Nat) (u : MS) (i : Nat) : TS := fo (M_t1 k (M_sp k u ec).2.1 (M_sp k u ec).2.2) i (m_cs u, m_cm u, m_cr u, 0)
def M_all (k ec : Nat) (u : MS) : MS :=
  ms_gs (ms_gn (ms_cs (ms_cm (ms_cr (ms_de (ms_se (ms_st u (m_st u + 1)) (M_sp k u ec).1) (m_de u + (M_st k ec u 48).2.2.2)) (M_st k ec u 48).2.2.1) (M_st k ec u 48).2.1) (M_st k ec u 48).1) (M_sp k u ec).2.1) (M_sp k u ec).2.2
/-- known, values, speaks -/
abbrev BS : Type := (Nat → Int32) × (Nat → UInt64) × (Nat → Int32)
def M_b1 (p s : Int32) (v : Nat) (d : BS) : BS :=
  let kv : Int32 := if p = 1 then 1 else if nI v = s then 1 else 0
  (upd d.1 v kv, vf_upd d.2.1 v (if p = 1 then FP.i2d (nI v) else if p = 3 then MX else D0), upd d.2.2 v kv)
def M_bv (u : MS) (p s : Int32) (i : Nat) : BS := fo (M_b1 p s) i (zer 12 (m_kn u), m_va u, m_sp u)
def M_beginS (n : Nat) (u : MS) (p s : Int32) : MS :=
  ms_sp (ms_kn (ms_va (ms_pr (ms_bg (M_forget (ms_th u 0)) 1) p) (M_bv u p s n).2.1) (M_bv u p s n).1) (M_bv u p s n).2.2
def M_begin (n k ec : Nat) (u : MS) (p s : Int32) : MS := M_all k ec (M_beginS n u p s)
/-- is any of the first n set? -/
def M_any : Nat → (Nat → Int32) → Bool
  | 0, _ => false
  | n + 1, f => M_any n f || decide (¬ f n = 0)
/-- woken, known, values, speaks -/
abbrev OS : Type := Int32 × (Nat → Int32) × (Nat → UInt64) × (Nat → Int32)
def M_o2 (pr : Int32) (cs : Nat → Int32) (cm : Nat → UInt64) (v p : Nat) (d : OS) : OS :=
  if cs (4 * v + p) = 0 then d else
  if d.2.1 v = 0 then (1, upd d.2.1 v 1, vf_upd d.2.2.1 v (cm (4 * v + p)), upd d.2.2.2 v 1) else
  if M_bet pr (cm (4 * v + p)) (d.2.2.1 v) = true then (1, upd d.2.1 v 1, vf_upd d.2.2.1 v (cm (4 * v + p)), upd d.2.2.2 v 1) else (1, d.2)
def M_oi (u : MS) (v : Nat) (d : OS) (j : Nat) : OS := fo (M_o2 (m_pr u) (m_cs u) (m_cm u) v) j (0, d.2.1, d.2.2.1, upd d.2.2.2 v 0)
/-- active, known, values, speaks -/
def M_o1 (pr : Int32) (cs : Nat → Int32) (cm : Nat → UInt64) (v : Nat) (d : OS) : OS :=
  let r := fo (M_o2 pr cs cm v) 4 (0, d.2.1, d.2.2.1, upd d.2.2.2 v 0)
  (if r.1 = 0 then d.1 else d.1 + 1, r.2)
def M_ov (u : MS) (i : Nat) : OS := fo (M_o1 (m_pr u) (m_cs u) (m_cm u)) i (0, m_kn u, m_va u, m_sp u)
def M_doS (n : Nat) (u : MS) : MS := ms_sp (ms_kn (ms_va u (M_ov u n).2.2.1) (M_ov u n).2.1) (M_ov u n).2.2.2
def M_do (n k ec : Nat) (u : MS) : MS := M_all k ec (M_doS n u)
def M_bok (n p s : Int32) : Bool := if p < 0 then false else if 3 < p then false else if C_isV n s = true then true else false
def M_size (u : MS) (v : Int32) : MS := M_forget (ms_e (ms_n u v) 0)
def M_parts (u : MS) (v : Int32) : MS := M_forget (ms_k u v)
def M_eok (n e a b : Int32) (w : UInt64) : Bool := if C_isV n a = true then (if C_isV n b = true then (if a = b then false else if dl w D0 < 0 then false else if 0 < dg w MX then false else if e = 30 then false else true) else false) else false
def M_val (u : MS) (v : Int32) : UInt64 := if m_bg u = 0 then NN else if C_isV (m_n u) v = true then (if m_kn u (tn v) = 0 then NN else m_va u (tn v)) else NN
def M_pend (u : MS) (v p : Int32) : UInt64 := if C_isV (m_n u) v = true then (if C_isV (m_k u) p = true then (if m_cs u (4 * tn v + tn p) = 0 then NN else m_cm u (4 * tn v + tn p)) else NN) else NN
def M_over (u : MS) : Bool := if m_bg u = 0 then false else if M_any 48 (m_cs u) = true then false else true
def M_sok (u : MS) : Bool := if m_bg u = 0 then false else if M_any 48 (m_cs u) = true then true else false
theorem M_any_of {f : Nat → Int32} {i : Nat} : ∀ {n : Nat}, i < n → ¬ f i = 0 → M_any n f = true
  | 0, h, _ => absurd h (Nat.not_lt_zero i)
  | n + 1, h, hf => by
    unfold M_any
    rcases Nat.lt_or_ge i n with q | q
    · rw [M_any_of q hf]; rfl
    · have e : i = n := by omega
      subst e
      simp [hf]
theorem M_any_succ {f : Nat → Int32} {n : Nat} (h : M_any n f = false) (hf : f n = 0) : M_any (n + 1) f = false := by
  unfold M_any
  rw [h, hf]; rfl
theorem at4 {to fr k : Nat} (hfr : fr < 2 ^ 31) (h0 : 0 < k) (hk : k < 2 ^ 31) : (4 : Int32) * nI to + (nI fr - nI fr / nI k * nI k) = nI (4 * to + fr % k) := by
  rw [pk_rem hfr h0 hk, show (4 : Int32) = nI 4 from rfl, pk_mul, nI_add]
theorem at4' (v p : Nat) : (4 : Int32) * nI v + nI p = nI (4 * v + p) := by
  rw [show (4 : Int32) = nI 4 from rfl, pk_mul, nI_add]
theorem rem4 {i : Nat} (h : i < 2 ^ 31) : nI i - nI i / 4 * 4 = nI (i % 4) := pk_rem (d := 4) h (by decide) (by decide)
theorem div4 {i : Nat} (h : i < 2 ^ 31) : nI i / 4 = nI (i / 4) := pk_div (d := 4) h (by decide) (by decide)
def M_sum (n : Nat) (kn : Nat → Int32) (va : Nat → UInt64) : UInt64 := fo (fun v t => if kn v = 0 then t else FP.dadd t (va v)) n D0
def M_deg (v : Int32) (e : Nat) (fe sd : Nat → Int32) : Int32 := fo (fun i x => if fe i = v then x + 1 else if sd i = v then x + 1 else x) e 0
def M_edge (ec : Nat) (u : MS) (a b : Int32) (w : UInt64) : MS :=
  M_forget (ms_e (ms_wt (ms_to (ms_fr u (upd (m_fr u) ec a)) (upd (m_to u) ec b)) (vf_upd (m_wt u) ec (FP.dadd w D0))) (m_e u + 1))
/-- so many steps -/
def C_it (n k ec : Nat) (u : CS) : Nat → CS
  | 0 => u
  | i + 1 => C_do n k ec (C_it n k ec u i)
def M_it (n k ec : Nat) (u : MS) : Nat → MS
  | 0 => u
  | i + 1 => M_do n k ec (M_it n k ec u i)
/-- the sums that a message may need are numbers -/
def N2 (x w : UInt64) : Prop := vf_n64 (FP.dadd x w) ∧ vf_n64 (FP.dadd x D1)
/-- what sending along the edges needs: ends are places, sums are numbers -/
def okE (sn : Nat → Int32) (va : Nat → UInt64) (fe sd : Nat → Int32) (wt : Nat → UInt64) (ec : Nat) : Prop :=
  ∀ j, j < ec → ∃ a b : Nat, a < 12 ∧ b < 12 ∧ fe j = nI a ∧ sd j = nI b ∧ (¬ sn a = 0 → N2 (va a) (wt j)) ∧ (¬ sn b = 0 → N2 (va b) (wt j))
