/-! the law: houses with orders, carriers, a loaded cart: nothing of it is refused -/
/-- what of the street is as at the beginning -/
def Lw (w : Nat → Int32) : Prop := (w 3 = 0 ∧ w 4 = 0 ∧ w 5 = 100) ∧ ∀ j, j < 4 → w (10 + j) = 0
def Lx (w : Nat → Int32) : Prop := w 3 = 0 ∧ ∀ j, j < 4 → w (10 + j) = 0
theorem Lw.cg {w w' : Nat → Int32} (h : Lw w) (e : ∀ j, 3 ≤ j → j < 14 → w' j = w j) : Lw w' := ⟨⟨(e 3 (by decide) (by decide)).trans h.1.1, (e 4 (by decide) (by decide)).trans h.1.2.1, (e 5 (by decide) (by decide)).trans h.1.2.2⟩, fun j hj => (e (10 + j) (by omega) (by omega)).trans (h.2 j hj)⟩
def Lp9 (A : AT) (m nh nc : Nat) (Q : (Nat → Int32) → Prop) : Option Value → GH → Prop := fun r G' => ∃ (σ' : Sg) (v : Int32), r = some (.int v) ∧ G' = HP A σ' ∧ FK σ' m nh nc ∧ Q (σ'.1 5 0)
theorem Lp9.of {A : AT} {σ : Sg} {S : ST} {m nh nc a b : Nat} {V : (Nat → Int32) → Int32} {Q : (Nat → Int32) → Prop} (h1 : S.2.2 1 = nI a) (ha : a ≤ 8) (h2 : S.2.2 2 = nI b) (hb : b ≤ 4) (hQ : Q S.2.2) {r : Option Value} {G' : GH} (h : PY A σ S m nh nc V r G') : Lp9 A (m + 1) a b Q r G' := by
  obtain ⟨σ', k, nh', nc', e1, -, e2, -, e4, -, -, e5⟩ := h
  obtain ⟨hh, hW, ⟨g1, g2⟩, ⟨g3, g4⟩, g5⟩ := id e4
  rw [e5] at g1 g3
  have x1 : nh' = a := (nI_eq (by omega) (by omega)).mp (g1.symm.trans h1)
  have x2 : nc' = b := (nI_eq (by omega) (by omega)).mp (g3.symm.trans h2)
  subst x1 x2
  exact ⟨σ', nI k, e1, e2, e4, by rw [e5]; exact hQ⟩
section V67
variable {D : va_G} {s0 : State} {own mn : String} {cc : ByteArray} {nL : Nat} {ret : Option FieldType} {hh : List (Nat × Nat × Nat × Nat)} {l : Launch} {R : Room} {Z : ZT} {pc : Nat} {lo : List (Nat × Value)} {st : List Value} {G : GH} {cells slots : Nat}
theorem V_callL {index d d' mc' ms' n ci b nL' : Nat} {y : MethodName} {cc' : ByteArray} {ret' : Option FieldType} {as fs : List Value} {q : vw_C} {A : AT} {m nh nc : Nat} {Q : (Nat → Int32) → Prop} {st0 : List Value} (hC : CV own index y cc' nL' ret' n) (hdg : decode cc pc = .ok (.invokevirtual index, 3)) (hM : Tri D s0 l y cc' nL' ret' d' mc' ms' (.ref b :: as) G (Lp9 A m nh nc Q) noX) (hb : G b = some (.inl (ci, fs))) (hq : cls9[ci]? = some q) (hqy : q.1 = y.cls) (hn : as.length = n) (hst : st0 = as.reverse ++ .ref b :: st) (hW : (st.map fun v => v.category).sum ≤ 8) (hR : d + 5 ≤ R.frames ∧ 35 * d + 120 ≤ R.locals) (hd : d' < d) (hf : cells + mc' ≤ R.cells ∧ slots + ms' ≤ R.slots)
    (kk : ∀ (σ' : Sg) (v : Int32), FK σ' m nh nc → Q (σ'.1 5 0) → V D s0 own mn cc nL ret hh l R Z (pc + 3) lo (.int v :: st) (HP A σ') (cells + mc') (slots + ms')) : V D s0 own mn cc nL ret hh l R Z pc lo st0 G cells slots :=
  V_call hC hdg hM hb hq hqy hn hst hW hR hd hf (fun r G' h => by obtain ⟨σ', v, rfl, rfl, h1, h2⟩ := h; exact kk σ' v h1 h2) (fun _ _ h => h.elim)
end V67
theorem ob_out {j a b : Nat} {x y : Int32} (hx : x = nI a) (hy : y = nI b) (h1 : a ≤ j) (h2 : j ≤ b) (hb : b < 1000) : ¬ ob (nI j) x y = true := by
  subst hx hy
  rw [ob_nn (by omega) (by omega) (by omega)]
  simp only [Bool.or_eq_true, decide_eq_true_eq]
  omega
theorem S_shoes_4 {w : Nat → Int32} (h : ∀ j, j < 4 → w (10 + j) = 0) : S_shoes w = 4 := by
  have e : ∀ j, j < 4 → S_worn w j = 1 := fun j hj => by
    unfold S_worn
    rw [h j hj]
    decide
  unfold S_shoes
  rw [sm, sm, sm, sm, sm, e 0 (by decide), e 1 (by decide), e 2 (by decide), e 3 (by decide)]
  decide

theorem l_X7_house {D : va_G} {s0 : State} {l : Launch} {B : Nat} {A : AT} {σ : Sg} (hA : AOK B A) (hl : l.stackTraces = false) {m nh nc : Nat} (hF : FK σ m nh nc) (hm : m ≤ 1000) (hw : Lw (σ.1 5 0)) {f g : Nat} (hf : f < 10) (hg : g < 3) (hk : nh < 8) : Tri D s0 l yX7_house cX7_house 3 ((some .int)) 3 1 6 [.ref (A 0 0 0), .int (nI f), .int (nI g)] (HP A σ) (Lp9 A (m + 1) (nh + 1) nc Lw) noX := by
  obtain ⟨-, -, ⟨h1, hn⟩, ⟨h2, hc⟩, ⟨pl, h3, hp⟩, -⟩ := id hF
  have eS : (S_house (σ.1 5 0) nh (nI f) (nI g)) = ((0, 0), nI nh, S_house_w (σ.1 5 0) nh (nI f) (nI g)) := by
    unfold S_house
    rw [if_neg (ob_out (x := 0) (y := 9) (a := 0) (b := 9) rfl rfl (Nat.zero_le f) (by omega) (by decide)), if_neg (ob_out (x := 0) (y := 2) (a := 0) (b := 2) rfl rfl (Nat.zero_le g) (by omega) (by decide)), if_neg (by omega)]
  refine (g_X7_house hA hl hF hm).weaken (fun r G' h => Lp9.of ?_ (by omega) ?_ hc ?_ h) (fun E G' h => absurd (show (S_house (σ.1 5 0) nh (nI f) (nI g)).1.1 = 0 by rw [eS]) h.2.1)
  · rw [eS]
    show S_house_w (σ.1 5 0) nh (nI f) (nI g) 1 = _
    unfold S_house_w
    (try dsimp only)
    rw [up_at, up_lo (by decide), up_lo (by decide), h1]
    exact nI_1 nh
  · rw [eS]
    show S_house_w (σ.1 5 0) nh (nI f) (nI g) 2 = _
    unfold S_house_w
    (try dsimp only)
    rw [up_ne (by decide), up_lo (by decide), up_lo (by decide), h2]
  · rw [eS]
    refine hw.cg (fun j h3 hj => ?_)
    show S_house_w (σ.1 5 0) nh (nI f) (nI g) j = _
    unfold S_house_w
    (try dsimp only)
    rw [up_ne (by omega), up_lo hj, up_lo hj]

theorem l_X7_order {D : va_G} {s0 : State} {l : Launch} {B : Nat} {A : AT} {σ : Sg} (hA : AOK B A) (hl : l.stackTraces = false) {m nh nc : Nat} (hF : FK σ m nh nc) (hm : m ≤ 1000) (hw : Lw (σ.1 5 0)) {k g : Nat} (hk : k < nh) (hg : g < 5) : Tri D s0 l yX7_order cX7_order 3 ((some .int)) 3 1 6 [.ref (A 0 0 0), .int (nI k), .int (nI g)] (HP A σ) (Lp9 A (m + 1) nh nc Lw) noX := by
  obtain ⟨-, -, ⟨h1, hn⟩, ⟨h2, hc⟩, ⟨pl, h3, hp⟩, -⟩ := id hF
  have eS : (S_order (σ.1 5 0) nh (nI k) (nI g)) = ((0, 0), (σ.1 5 0) (hx k 2), up (σ.1 5 0) (hx k 2) (nI g)) := by
    unfold S_order
    rw [if_neg (by rw [ob_in hk (by omega)]; decide), if_neg (ob_out (x := 0) (y := 4) (a := 0) (b := 4) rfl rfl (Nat.zero_le g) (by omega) (by decide)), nI_clamp (by omega : k < 2 ^ 31)]
  refine (g_X7_order hA hl hF hm).weaken (fun r G' h => Lp9.of ?_ hn ?_ hc ?_ h) (fun E G' h => absurd (show (S_order (σ.1 5 0) nh (nI k) (nI g)).1.1 = 0 by rw [eS]) h.2.1)
  · rw [eS]
    show up (σ.1 5 0) (hx k 2) (nI g) 1 = _
    exact (up_lo (by decide)).trans h1
  · rw [eS]
    show up (σ.1 5 0) (hx k 2) (nI g) 2 = _
    exact (up_lo (by decide)).trans h2
  · rw [eS]
    exact hw.cg (fun j h3 hj => up_lo hj)

theorem l_X7_carrier {D : va_G} {s0 : State} {l : Launch} {B : Nat} {A : AT} {σ : Sg} (hA : AOK B A) (hl : l.stackTraces = false) {m nh nc : Nat} (hF : FK σ m nh nc) (hm : m ≤ 1000) (hw : Lw (σ.1 5 0)) {x : Nat} (h1x : 1 ≤ x) (hx9 : x ≤ 9) (hk : nc < 4) : Tri D s0 l yX7_carrier cX7_carrier 2 ((some .int)) 3 1 6 [.ref (A 0 0 0), .int (nI x)] (HP A σ) (Lp9 A (m + 1) nh (nc + 1) Lw) noX := by
  obtain ⟨-, -, ⟨h1, hn⟩, ⟨h2, hc⟩, ⟨pl, h3, hp⟩, -⟩ := id hF
  have eS : (S_carrier (σ.1 5 0) nc (nI x)) = ((0, 0), nI nc, S_carrier_w (σ.1 5 0) nc (nI x)) := by
    unfold S_carrier
    rw [if_neg (ob_out (x := 1) (y := 9) (a := 1) (b := 9) rfl rfl h1x hx9 (by decide)), if_neg (by omega)]
  refine (g_X7_carrier hA hl hF hm).weaken (fun r G' h => Lp9.of ?_ hn ?_ (by omega) ?_ h) (fun E G' h => absurd (show (S_carrier (σ.1 5 0) nc (nI x)).1.1 = 0 by rw [eS]) h.2.1)
  · rw [eS]
    show S_carrier_w (σ.1 5 0) nc (nI x) 1 = _
    unfold S_carrier_w
    (try dsimp only)
    rw [up_ne (by decide), up_lk (by decide), h1]
  · rw [eS]
    show S_carrier_w (σ.1 5 0) nc (nI x) 2 = _
    unfold S_carrier_w
    (try dsimp only)
    rw [up_at, up_lk (by decide), h2]
    exact nI_1 nc
  · rw [eS]
    refine hw.cg (fun j h3 hj => ?_)
    show S_carrier_w (σ.1 5 0) nc (nI x) j = _
    unfold S_carrier_w
    (try dsimp only)
    rw [up_ne (by omega), up_lk hj]

theorem l_X7_days {D : va_G} {s0 : State} {l : Launch} {B : Nat} {A : AT} {σ : Sg} (hA : AOK B A) (hl : l.stackTraces = false) {m nh nc : Nat} (hF : FK σ m nh nc) (hm : m ≤ 1000) (hw : Lw (σ.1 5 0)) {x : Nat} (h1x : 1 ≤ x) (hx9 : x ≤ 30) : Tri D s0 l yX7_days cX7_days 2 ((some .int)) 4 1 6 [.ref (A 0 0 0), .int (nI x)] (HP A σ) (Lp9 A (m + 1) nh nc Lw) noX := by
  obtain ⟨-, -, ⟨h1, hn⟩, ⟨h2, hc⟩, ⟨pl, h3, hp⟩, -⟩ := id hF
  have eS : (S_days (σ.1 5 0) nh nc (nI x)) = ((0, 0), S_sum (S_dys (σ.1 5 0) nh nc x) nh 3, S_dys (σ.1 5 0) nh nc x) := by
    unfold S_days
    rw [if_neg (ob_out (x := 1) (y := 30) (a := 1) (b := 30) rfl rfl h1x hx9 (by decide)), nI_clamp (by omega : x < 2 ^ 31)]
  refine (g_X7_days hA hl hF hm).weaken (fun r G' h => Lp9.of ?_ hn ?_ hc ?_ h) (fun E G' h => absurd (show (S_days (σ.1 5 0) nh nc (nI x)).1.1 = 0 by rw [eS]) h.2.1)
  · rw [eS]
    exact (S_dys_lo (by decide) (by decide) x).trans h1
  · rw [eS]
    exact (S_dys_lo (by decide) (by decide) x).trans h2
  · rw [eS]
    exact hw.cg (fun j h3 hj => S_dys_lo hj (by omega) x)

theorem l_X7_load {D : va_G} {s0 : State} {l : Launch} {B : Nat} {A : AT} {σ : Sg} (hA : AOK B A) (hl : l.stackTraces = false) {m nh nc : Nat} (hF : FK σ m nh nc) (hm : m ≤ 1000) (hw : Lw (σ.1 5 0)) {x : Nat} (h1x : 1 ≤ x) (hx9 : x ≤ 30) : Tri D s0 l yX7_load cX7_load 2 ((some .int)) 3 1 6 [.ref (A 0 0 0), .int (nI x)] (HP A σ) (Lp9 A (m + 1) nh nc Lx) noX := by
  obtain ⟨-, -, ⟨h1, hn⟩, ⟨h2, hc⟩, ⟨pl, h3, hp⟩, -⟩ := id hF
  have eS : (S_load (σ.1 5 0) (nI x)) = ((0, 0), S_load_w (σ.1 5 0) (nI x) 4, S_load_w (σ.1 5 0) (nI x)) := by
    unfold S_load
    rw [if_neg (ob_out (x := 1) (y := 30) (a := 1) (b := 30) rfl rfl h1x hx9 (by decide)), if_neg (fun z => z hw.1.1), if_neg (by rw [hw.1.2.2, show (100 : Int32) = nI 100 from rfl, nI_ltI (by decide) (by omega)]; omega), if_neg (by rw [hw.1.2.1, show (0 : Int32) = nI 0 from rfl, nI_add, show (30 : Int32) = nI 30 from rfl, nI_ltI (by decide) (by omega)]; omega)]
  refine (g_X7_load hA hl hF hm).weaken (fun r G' h => Lp9.of ?_ hn ?_ hc ?_ h) (fun E G' h => absurd (show (S_load (σ.1 5 0) (nI x)).1.1 = 0 by rw [eS]) h.2.1)
  · rw [eS]
    show S_load_w (σ.1 5 0) (nI x) 1 = _
    unfold S_load_w
    (try dsimp only)
    rw [up_ne (by decide), up_ne (by decide), h1]
  · rw [eS]
    show S_load_w (σ.1 5 0) (nI x) 2 = _
    unfold S_load_w
    (try dsimp only)
    rw [up_ne (by decide), up_ne (by decide), h2]
  · rw [eS]
    refine (⟨?_, fun j hj => ?_⟩ : Lx (S_load_w (σ.1 5 0) (nI x)))
    · unfold S_load_w
      (try dsimp only)
      rw [up_ne (by decide), up_ne (by decide)]
      exact hw.1.1
    · unfold S_load_w
      (try dsimp only)
      rw [up_ne (by omega), up_ne (by omega)]
      exact hw.2 j hj

theorem l_X7_drive {D : va_G} {s0 : State} {l : Launch} {B : Nat} {A : AT} {σ : Sg} (hA : AOK B A) (hl : l.stackTraces = false) {m nh nc : Nat} (hF : FK σ m nh nc) (hm : m ≤ 1000) (hw : Lx (σ.1 5 0)) {x : Nat} (h1x : 1 ≤ x) (hx9 : x ≤ nh) : Tri D s0 l yX7_drive cX7_drive 2 ((some .int)) 3 1 6 [.ref (A 0 0 0), .int (nI x)] (HP A σ) (Lp9 A (m + 1) nh nc (fun _ => True)) noX := by
  obtain ⟨-, -, ⟨h1, hn⟩, ⟨h2, hc⟩, ⟨pl, h3, hp⟩, -⟩ := id hF
  have eS : (S_drive (σ.1 5 0) nh (nI x)) = ((0, 0), S_shoes (S_drive_w (σ.1 5 0) (nI x)), S_drive_w (σ.1 5 0) (nI x)) := by
    unfold S_drive
    rw [if_neg (ob_out (x := 0) (y := nI nh) (a := 0) (b := nh) rfl rfl (Nat.zero_le x) hx9 (by omega)), if_neg (by rw [hw.1, show (0 : Int32) = nI 0 from rfl, nI_eq (by omega) (by decide)]; omega), if_neg (fun z => by have z2 := z.2; rw [S_shoes_4 hw.2] at z2; exact absurd z2 (by decide))]
  refine (g_X7_drive hA hl hF hm).weaken (fun r G' h => Lp9.of ?_ hn ?_ hc ?_ h) (fun E G' h => absurd (show (S_drive (σ.1 5 0) nh (nI x)).1.1 = 0 by rw [eS]) h.2.1)
  · rw [eS]
    show S_drive_w (σ.1 5 0) (nI x) 1 = _
    unfold S_drive_w S_up
    rw [up_ne (by decide), up_ne (by decide), S_upw_lo (by decide), h1]
  · rw [eS]
    show S_drive_w (σ.1 5 0) (nI x) 2 = _
    unfold S_drive_w S_up
    rw [up_ne (by decide), up_ne (by decide), S_upw_lo (by decide), h2]
  · 
    trivial

