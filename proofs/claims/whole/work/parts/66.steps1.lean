/-! a change's step, a question's step: what both sides leave -/
theorem i64_n1 {x : Int32} : x.toInt64 = x.toInt64 := rfl
/-- behind a change of the class's side -/
def QC (A : AT) (S : ST) (w : Nat → Int32) (cn : Nat) (h : HF) (sf : Int32) (sv : Nat → Int32) (rr : RT) (tl : Nat) (tx : Nat → Int32) (ft : Int32) (T : List Nat) (k : Nat) (σ1 : Sg) : Prop :=
  RK σ1 w cn h sf sv rr tl tx ft T ∧ SBok A σ1 T ∧ ((k = 0 ∧ S.1.1 = 0 ∧ σ1.2.1 0 = S.2.1.toInt64 ∧ ∃ nx, CK σ1 nx S.2.2 (upN cn) (hPush cn h w) sf sv rr tl tx ft) ∨ (k = 1 ∧ ¬ S.1.1 = 0 ∧ ∃ nx, CK σ1 nx w cn h sf sv (S.1.1, S.1.2, 0) tl tx ft))
theorem sl_cg {B : Nat} {A : AT} {σ τ : Sg} {v : Int64} (hA : AOK B A) (e : HP A σ = HP A τ) : HP A (sl σ v) = HP A (sl τ v) := by
  have g : ∀ ρ : Sg, HP A (sl ρ v) = gset (HP A ρ) (A 30 0 0) (cellT A (sl ρ v) 30 0 0) := fun ρ => by
    refine (HP_put (σ := ρ) (σ' := sl ρ v) hA vl_30 rfl (fun kd' k' i' hv hn => ?_) rfl).symm
    unfold cellT sl
    split <;> first | rfl | skip
    exact absurd (by simpa [vl] using hv) (fun z => hn ⟨rfl, z⟩)
  have c := (hp30 (σ := σ) hA).symm.trans ((congrFun e _).trans (hp30 (σ := τ) hA))
  have c2 : (fun j => Value.long (σ.2.1 j)) = fun j => Value.long (τ.2.1 j) := by
    injection c with c
    injection c with c
    injection c with _ c
    injection c with _ c
  have c3 : cellT A (sl σ v) 30 0 0 = cellT A (sl τ v) 30 0 0 := by
    show (Sum.inr (FieldType.long, 1, fun j => Value.long (if j = 0 then v else σ.2.1 j)) : EC) = Sum.inr (FieldType.long, 1, fun j => Value.long (if j = 0 then v else τ.2.1 j))
    refine congrArg (fun z => (Sum.inr (FieldType.long, 1, z) : EC)) (funext fun j => ?_)
    by_cases hj : j = 0
    · rw [if_pos hj, if_pos hj]
    · rw [if_neg hj, if_neg hj]
      exact congrFun c2 j
  rw [g σ, g τ, e, c3]
theorem kpN_b {σ : Sg} {nx cn a : Nat} (h : ¬ a = 3) : (kpN σ nx cn).1 a = σ.1 a := by
  unfold kpN
  rw [w3a h, w3a h]
theorem rfz_b {σ : Sg} {x y : Int32} {a : Nat} (h : ¬ a = 2) : (rfz σ x y).1 a = σ.1 a := by
  unfold rfz
  rw [w3a h, w3a h, w3a h]
/-- a change: from what the law's wrapper tells -/
theorem chg_q {B : Nat} {A : AT} {σ : Sg} {nx cn tl : Nat} {w sv tx : Nat → Int32} {h : HF} {sf ft : Int32} {rr : RT} {T : List Nat} {S : ST} (hA : AOK B A) (c : CK σ nx w cn h sf sv rr tl tx ft) (q : RK σ w cn h sf sv rr tl tx ft T) (sb : SBok A σ T) (hB : S.1.1 = 0 → Bo S.2.2) (r : Option Value) (G' : GH)
    (z : (∃ (σ1 : Sg) (v : Int32), (S.1.1 = 0 ∧ some (Value.int v) = some (.int S.2.1) ∧ HP A σ1 = HP A (kpN (row (ntd σ nx) 5 0 S.2.2) nx cn)) ∧ r = some (.int 0) ∧ G' = HP A (sl σ1 v.toInt64)) ∨ (∃ σ1 : Sg, (¬ S.1.1 = 0 ∧ "java/lang/UnsupportedOperationException" = "java/lang/UnsupportedOperationException" ∧ HP A σ1 = HP A (rfz (ntd σ nx) S.1.1 S.1.2)) ∧ r = some (.int 1) ∧ G' = HP A σ1)) :
    ∃ (k : Nat) (σ1 : Sg), r = some (.int (nI k)) ∧ G' = HP A σ1 ∧ QC A S w cn h sf sv rr tl tx ft T k σ1 := by
  rcases z with ⟨σ1, v, ⟨h0, hv, e⟩, rfl, rfl⟩ | ⟨σ1, ⟨h0, -, e⟩, rfl, rfl⟩
  · injection hv with hv
    injection hv with hv
    subst hv
    refine ⟨0, sl (kpN (row (ntd σ nx) 5 0 S.2.2) nx cn) S.2.1.toInt64, rfl, sl_cg hA e, ?_, ?_, Or.inl ⟨rfl, h0, rfl, _, c.push (hB h0)⟩⟩
    · exact q.cg (fun a ha => (kpN_b (by omega)).trans ((rowa (by omega)).trans (cpa (by omega))))
    · exact sb.cg (show (kpN (row (ntd σ nx) 5 0 S.2.2) nx cn).1 16 = σ.1 16 from (kpN_b (by decide)).trans ((rowa (by decide)).trans (cpa (by decide)))) rfl
  · refine ⟨1, rfz (ntd σ nx) S.1.1 S.1.2, rfl, e, ?_, ?_, Or.inr ⟨rfl, h0, nx, c.noted.why⟩⟩
    · exact q.cg (fun a ha => (rfz_b (by omega)).trans (cpa (by omega)))
    · exact sb.cg ((rfz_b (by omega)).trans (cpa (by omega))) rfl
/-- a change: behind the reference's side -/
theorem chg_r {A : AT} {m cn tl k : Nat} {σ1 : Sg} {w sv tx : Nat → Int32} {h : HF} {sf ft b : Int32} {rr : RT} {T : List Nat} {S R : ST} (q : QC A S w cn h sf sv rr tl tx ft T k σ1) (mi : MK m w cn h sf sv tl tx T) (hO : S.1.1 = 0 → Ow (m + 1) S.2.2) (hR : RSok (0, b) R S) (ht : ∀ j, 102 ≤ j → R.2.2 j = 0) : RDY A (m + 1) (finS σ1 R cn 0 1) k (finA R) := by
  have hz : ∀ j, 102 ≤ j → w j = 0 := fun j hj => mi.1.1.z hj
  obtain ⟨qr, sb, ⟨rfl, h0, hl, nx, c⟩ | ⟨rfl, h0, nx, c⟩⟩ := q
  · have e := hR.1 h0
    have eF : finS σ1 R cn 0 1 = remS (w3 (rs (beg σ1) (0, b) S.2.2) 20 0 6 0) cn ((beg σ1).1 22 0) := by
      unfold finS
      rw [e, endS_y]
    have eA : finA R = S.2.1 := by
      unfold finA
      rw [e, if_pos rfl]
    rw [eF, eA]
    refine ⟨remS_6.trans nI_0.symm, by decide, fun _ => hl, nx, S.2.2, upN cn, hPush cn h w, sf, sv, rr, tl, tx, ft, T, ?_, qr.push hz, mi.push qr.2.2.1.2.1 (Nat.le_succ m) (hO h0), ?_⟩
    · exact c.cg (fun a ha => (remS_b (by omega)).trans ((w3a (by omega)).trans ((rs_b (by omega)).trans (beg_b (by omega)))))
    · exact sb.cg ((remS_b (by decide)).trans ((w3a (by decide)).trans ((rs_b (by decide)).trans (beg_b (by decide))))) rfl
  · have e := hR.2 h0
    have eF : finS σ1 R cn 0 1 = refS (rs (beg σ1) S.1 R.2.2) 0 1 := by
      unfold finS
      rw [e, endS_no h0]
    rw [eF]
    refine ⟨refS_6, by decide, fun z => absurd z (by decide), nx, w, cn, h, sf, sv, (S.1.1, S.1.2, 0), tl, tx, ft, T, ?_, qr.ref hz ht, mi.mono (Nat.le_succ m), ?_⟩
    · exact c.cg (fun a ha => (refS_b (by omega)).trans ((rs_b (by omega)).trans (beg_b (by omega))))
    · exact sb.cg ((refS_b (by decide)).trans ((rs_b (by decide)).trans (beg_b (by decide)))) rfl
/-- a question: behind the class's side -/
def QQ (σ : Sg) (K : KT) (k : Nat) (σ1 : Sg) : Prop := k = K.1 ∧ ((k = 0 ∧ σ1 = sl σ K.2.toInt64) ∨ (¬ k = 0 ∧ σ1 = σ))
theorem QQ.a {σ σ1 : Sg} {K : KT} {k : Nat} (q : QQ σ K k σ1) : σ1.1 = σ.1 := by
  rcases q.2 with ⟨-, e⟩ | ⟨-, e⟩ <;> rw [e] <;> rfl
theorem QQ.b {σ σ1 : Sg} {K : KT} {k : Nat} (q : QQ σ K k σ1) : σ1.2.2.2 = σ.2.2.2 := by
  rcases q.2 with ⟨-, e⟩ | ⟨-, e⟩ <;> rw [e] <;> rfl
theorem qst1 {B : Nat} {A : AT} {σ : Sg} {K : KT} {E : String} (hA : AOK B A) (hE : ¬ E = "") (r : Option Value) (G' : GH) (z : (∃ (σ1 : Sg) (v : Int32), (K.1 = 0 ∧ some (Value.int v) = some (.int K.2) ∧ HP A σ1 = HP A σ) ∧ r = some (.int 0) ∧ G' = HP A (sl σ1 v.toInt64)) ∨ (∃ σ1 : Sg, (¬ K.1 = 0 ∧ E = (if K.1 = 1 then E else "") ∧ HP A σ1 = HP A σ) ∧ r = some (.int 1) ∧ G' = HP A σ1)) : ∃ (k : Nat) (σ1 : Sg), r = some (.int (nI k)) ∧ G' = HP A σ1 ∧ QQ σ K k σ1 := by
  rcases z with ⟨σ1, v, ⟨h0, hv, e⟩, rfl, rfl⟩ | ⟨σ1, ⟨h0, h1, e⟩, rfl, rfl⟩
  · injection hv with hv
    injection hv with hv
    subst hv
    exact ⟨0, sl σ K.2.toInt64, rfl, sl_cg hA e, h0.symm, Or.inl ⟨rfl, rfl⟩⟩
  · by_cases k1 : K.1 = 1
    · exact ⟨1, σ, rfl, e, k1.symm, Or.inr ⟨by decide, rfl⟩⟩
    · rw [if_neg k1] at h1
      exact absurd h1 hE
theorem qst2 {B : Nat} {A : AT} {σ : Sg} {K : KT} {E F : String} (hA : AOK B A) (hE : ¬ E = F) (hK : K.1 ≤ 2) (r : Option Value) (G' : GH) (z : (∃ (σ1 : Sg) (v : Int32), (K.1 = 0 ∧ some (Value.int v) = some (.int K.2) ∧ HP A σ1 = HP A σ) ∧ r = some (.int 0) ∧ G' = HP A (sl σ1 v.toInt64)) ∨ (∃ σ1 : Sg, (¬ K.1 = 0 ∧ E = (if K.1 = 1 then E else F) ∧ HP A σ1 = HP A σ) ∧ r = some (.int 1) ∧ G' = HP A σ1) ∨ (∃ σ1 : Sg, (¬ K.1 = 0 ∧ F = (if K.1 = 1 then E else F) ∧ HP A σ1 = HP A σ) ∧ r = some (.int 2) ∧ G' = HP A σ1)) : ∃ (k : Nat) (σ1 : Sg), r = some (.int (nI k)) ∧ G' = HP A σ1 ∧ QQ σ K k σ1 := by
  rcases z with ⟨σ1, v, ⟨h0, hv, e⟩, rfl, rfl⟩ | ⟨σ1, ⟨h0, h1, e⟩, rfl, rfl⟩ | ⟨σ1, ⟨h0, h1, e⟩, rfl, rfl⟩
  · injection hv with hv
    injection hv with hv
    subst hv
    exact ⟨0, sl σ K.2.toInt64, rfl, sl_cg hA e, h0.symm, Or.inl ⟨rfl, rfl⟩⟩
  · by_cases k1 : K.1 = 1
    · exact ⟨1, σ, rfl, e, k1.symm, Or.inr ⟨by decide, rfl⟩⟩
    · rw [if_neg k1] at h1
      exact absurd h1 hE
  · by_cases k1 : K.1 = 1
    · rw [if_pos k1] at h1
      exact absurd h1.symm hE
    · exact ⟨2, σ, rfl, e, by omega, Or.inr ⟨by decide, rfl⟩⟩
theorem IV.t {A : AT} {m : Nat} {σ : Sg} {x : Int32} (h : IV A m σ) : IV A (m + 1) (tS σ x) := by
  obtain ⟨nx, w, cn, hh, sf, sv, rr, tl, tx, ft, T, c, q, mi, sb⟩ := h
  exact ⟨nx, w, cn, hh, sf, sv, rr, tl, tx, ft, T, c.cg (fun a ha => w3a (by omega)), q.t, mi.mono (Nat.le_succ m), sb.cg (w3a (by decide)) rfl⟩
theorem IV.e {A : AT} {m : Nat} {σ τ : Sg} (h : IV A m σ) (e : τ.1 = σ.1) (e2 : τ.2.2.2 = σ.2.2.2) : IV A m τ := by
  obtain ⟨nx, w, cn, hh, sf, sv, rr, tl, tx, ft, T, c, q, mi, sb⟩ := h
  exact ⟨nx, w, cn, hh, sf, sv, rr, tl, tx, ft, T, c.cg (fun a _ => congrFun e a), q.cg (fun a _ => congrFun e a), mi, sb.cg (congrFun e 16) e2⟩
/-- a question: behind the reference's side -/
theorem qst_r {A : AT} {m k : Nat} {σ σ1 : Sg} {K : KT} (h : IV A m σ) (q : QQ σ K k σ1) (hK : K.1 ≤ 2) : RDY A (m + 1) (tS σ1 (nI K.1)) k K.2 := by
  refine ⟨(w3_eq _ _ _ _ _).trans (congrArg nI q.1.symm), by have := q.1; omega, fun z => ?_, (h.e q.a q.b).t⟩
  rcases q.2 with ⟨-, e⟩ | ⟨n, -⟩
  · rw [e]
    rfl
  · exact absurd z n
theorem tS_rs {σ : Sg} {x : Int32} : rs (tS σ x) (σ.1 20 0 15, σ.1 20 0 16) (σ.1 21 0) = tS σ x := by
  have e1 : (tS σ x).1 20 0 15 = σ.1 20 0 15 := w3_ne (by omega)
  have e2 : (tS σ x).1 20 0 16 = σ.1 20 0 16 := w3_ne (by omega)
  have e3 : (tS σ x).1 21 = σ.1 21 := w3a (by decide)
  have := rs_id (σ := tS σ x)
  rw [e1, e2, e3] at this
  exact this.symm
theorem Tri.qs {D : va_G} {s0 : State} {l : Launch} {y : MethodName} {cc : ByteArray} {nL : Nat} {ret : Option FieldType} {d mc ms : Nat} {as : List Value} {A : AT} {σ : Sg} {v : Value} {x : Int32} (h : Tri D s0 l y cc nL ret d mc ms as (HP A (rs σ (σ.1 20 0 15, σ.1 20 0 16) (σ.1 21 0))) (fun r G' => r = some v ∧ G' = HP A (rs (tS σ x) (σ.1 20 0 15, σ.1 20 0 16) (σ.1 21 0))) noX) : Tri D s0 l y cc nL ret d mc ms as (HP A σ) (fun r G' => r = some v ∧ G' = HP A (tS σ x)) noX := by
  rw [tS_rs, ← rs_id] at h
  exact h
/-- commands keep a street's bounds -/
theorem gS_ok {m nh nc : Nat} (hm : m ≤ 1000) : ∀ (L : List CL) (i : Nat) (w : Nat → Int32), (∀ c, c ∈ L → c.1 < 8) → Ow m w → w 1 = nI nh → nh ≤ 8 → w 2 = nI nc → nc ≤ 4 → Ow m (gS nh nc L i w).2.2
  | [], _, _, _, h, _, _, _, _ => h
  | c :: L, i, w, hL, h, h1, hn, h2, hc => by
    unfold gS
    obtain ⟨hb, nh', nc', pl, ⟨a1, a2⟩, ⟨b1, b2⟩, ⟨c1, c2⟩, hd⟩ := h
    have en : nh' = nh := by
      have e := congrArg Int32.toNatClampNeg (a1.symm.trans h1)
      rwa [nI_clamp (by omega), nI_clamp (by omega)] at e
    have ec : nc' = nc := by
      have e := congrArg Int32.toNatClampNeg (b1.symm.trans h2)
      rwa [nI_clamp (by omega), nI_clamp (by omega)] at e
    rw [en] at c2 hd
    have ep : pW w = pl := kK c1 (by omega)
    rw [ep]
    split
    · rename_i z
      have k1 := S_cmd_12 (w := w) (nh := nh) (nc := nc) (pl := pl) (q := c.1) (j := 1) (a := c.2.1) (b := c.2.2) hc hn (by omega) (Or.inl rfl)
      have k2 := S_cmd_12 (w := w) (nh := nh) (nc := nc) (pl := pl) (q := c.1) (j := 2) (a := c.2.1) (b := c.2.2) hc hn (by omega) (Or.inr rfl)
      obtain ⟨⟨kb, nh2, nc2, pl2, q1, q2, q3, q4, q5, q6⟩, -⟩ := C_cmd (q := c.1) (x := c.2.1) (n := c.2.2) hm hb h1 hn h2 hc c1 c2 z
      have en2 : nh2 = nh := by
        have e := congrArg Int32.toNatClampNeg (q1.symm.trans (k1.trans h1))
        rwa [nI_clamp (by omega), nI_clamp (by omega)] at e
      refine gS_ok hm L (i + 1) _ (fun d hd => hL d (List.mem_cons_of_mem _ hd)) ⟨kb, nh, nc, pl2, ⟨k1.trans h1, hn⟩, ⟨k2.trans h2, hc⟩, ⟨q5, by omega⟩, Bd.cmd hd hn c2⟩ (k1.trans h1) hn (k2.trans h2) hc
    · exact ⟨hb, nh, nc, pl, ⟨h1, hn⟩, ⟨h2, hc⟩, ⟨c1, c2⟩, hd⟩
