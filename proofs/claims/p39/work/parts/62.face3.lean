/-! the face's changes, said of the sums -/
/-- a street within its bounds, its sums right -/
def FS (m nh nc : Nat) (w : Nat → Int32) : Prop := Wb m w ∧ (w 1 = nI nh ∧ nh ≤ 8) ∧ (w 2 = nI nc ∧ nc ≤ 4) ∧ (∃ pl, w 3 = nI pl ∧ pl ≤ nh) ∧ Jn nh nc 0 w
theorem FS.mono {m n nh nc : Nat} {w : Nat → Int32} (h : FS m nh nc w) (hmn : m ≤ n) : FS n nh nc w := ⟨h.1.mono hmn, h.2⟩
theorem FS.wok {m nh nc : Nat} {w : Nat → Int32} (h : FS m nh nc w) : Wok m w := by
  obtain ⟨h1, ⟨h2, h3⟩, ⟨h4, h5⟩, ⟨pl, h6, h7⟩, -⟩ := h
  exact ⟨h1, nh, nc, pl, h2, h3, h4, h5, h6, h7⟩
theorem FS.go {V : (Nat → Int32) → Int32} {m m' nh nc : Nat} {w : Nat → Int32} {S : ST} (hC : Cok m' S) (hm : m' ≤ m) (hG : GD V nh nc w S) (hS : S.1.1 = 0) : ∃ nh' nc', nh ≤ nh' ∧ nc ≤ nc' ∧ FS m nh' nc' S.2.2 ∧ DL w S.2.2 (V S.2.2) ∧ ∃ k, k < 100000 ∧ S.2.1 = nI k := by
  obtain ⟨nh', nc', a1, a2, a3, a4, a5, a6, a7, a8⟩ := hG hS
  obtain ⟨⟨b1, n2, c2, pl, b2, b3, b4, b5, b6, b7⟩, b8⟩ := hC hS
  have e : n2 = nh' := (nI_eq (by omega) (by omega)).mp (b2.symm.trans a5)
  subst e
  exact ⟨n2, nc', a1, a3, ⟨b1.mono hm, ⟨a5, a2⟩, ⟨a6, a4⟩, ⟨pl, b6, b7⟩, a7⟩, a8, b8⟩
/-- the face between two calls -/
def FK (σ : Sg) (m nh nc : Nat) : Prop := ((∃ nx, σ.1 3 0 0 = nI nx ∧ nx < 9) ∧ ∃ cn, σ.1 3 0 1 = nI cn ∧ cn ≤ 8) ∧ FS m nh nc (σ.1 5 0)
/-- it went through -/
def PY (A : AT) (σ : Sg) (S : ST) (m nh nc : Nat) (V : (Nat → Int32) → Int32) : Option Value → GH → Prop := fun r G' => ∃ (σ' : Sg) (k nh' nc' : Nat), r = some (.int (nI k)) ∧ k < 100000 ∧ G' = HP A σ' ∧ (nh ≤ nh' ∧ nc ≤ nc') ∧ FK σ' (m + 1) nh' nc' ∧ DL (σ.1 5 0) (σ'.1 5 0) (V (σ'.1 5 0)) ∧ S.1.1 = 0 ∧ σ'.1 5 0 = S.2.2
/-- it was refused -/
def PN (A : AT) (σ : Sg) (S : ST) (m nh nc : Nat) : String → GH → Prop := fun E G' => E = "java/lang/UnsupportedOperationException" ∧ ¬ S.1.1 = 0 ∧ ∃ σ' : Sg, G' = HP A σ' ∧ FK σ' m nh nc ∧ σ'.1 5 0 = σ.1 5 0
theorem w3a {σ : Sg} {a b c a' : Nat} {x : Int32} (h : ¬ a' = a) : (w3 σ a b c x).1 a' = σ.1 a' := funext fun _ => funext fun _ => w3_ne (fun z => h z.1)
theorem PY.of {A : AT} {σ : Sg} {S : ST} {m m' nh nc nx cn : Nat} {V : (Nat → Int32) → Int32} (hC : Cok m' S) (hm : m' ≤ m + 1) (hG : GD V nh nc (σ.1 5 0) S) {r : Option Value} {G' : GH} (h : S.1.1 = 0 ∧ r = some (.int S.2.1) ∧ G' = HP A (kpN (row (ntd σ nx) 5 0 S.2.2) nx cn)) : PY A σ S m nh nc V r G' := by
  obtain ⟨h0, h1, h2⟩ := h
  obtain ⟨nh', nc', a1, a3, aF, aD, k, hk, ek⟩ := FS.go hC hm hG h0
  have e5 : (kpN (row (ntd σ nx) 5 0 S.2.2) nx cn).1 5 0 = S.2.2 := by
    unfold kpN
    rw [w3a (by decide), w3a (by decide), row_at]
  refine ⟨_, k, nh', nc', by rw [h1, ek], hk, h2, ⟨a1, a3⟩, ⟨⟨⟨(nx + 1) % 9, ?_, Nat.mod_lt _ (by decide)⟩, ⟨if cn + 1 < 8 then cn + 1 else 8, ?_, by split <;> omega⟩⟩, by rw [e5]; exact aF⟩, by rw [e5]; exact aD, h0, e5⟩
  · unfold kpN
    rw [w3_ne (by omega), w3_eq]
  · unfold kpN
    rw [w3_eq]
theorem PN.of {A : AT} {σ : Sg} {S : ST} {m nh nc nx : Nat} (hF : FK σ m nh nc) {E : String} {G' : GH} (h : ¬ S.1.1 = 0 ∧ E = "java/lang/UnsupportedOperationException" ∧ G' = HP A (rfz (ntd σ nx) S.1.1 S.1.2)) : PN A σ S m nh nc E G' := by
  obtain ⟨h0, h1, h2⟩ := h
  have e5 : (rfz (ntd σ nx) S.1.1 S.1.2).1 5 0 = σ.1 5 0 := by
    unfold rfz
    rw [w3a (by decide), w3a (by decide), w3a (by decide), ntd_0]
  have e3 : (rfz (ntd σ nx) S.1.1 S.1.2).1 3 = σ.1 3 := by
    unfold rfz
    rw [w3a (by decide), w3a (by decide), w3a (by decide), ntd_a (by decide)]
  refine ⟨h1, h0, _, h2, ⟨?_, by rw [e5]; exact hF.2⟩, e5⟩
  rw [e3]
  exact hF.1
theorem g_X7_house {D : va_G} {s0 : State} {l : Launch} {B : Nat} {A : AT} {σ : Sg} (hA : AOK B A) (hl : l.stackTraces = false) {m nh nc : Nat} (hF : FK σ m nh nc) (hm : m ≤ 1000) {a b : Int32} : Tri D s0 l yX7_house cX7_house 3 ((some .int)) 3 1 6 [.ref (A 0 0 0), .int a, .int b] (HP A σ) (PY A σ (S_house (σ.1 5 0) nh a b) m nh nc (fun _ => 0)) (PN A σ (S_house (σ.1 5 0) nh a b) m nh nc) := by
  obtain ⟨⟨⟨nx, hnx, hx9⟩, cn, hcn, hc8⟩, hW, ⟨h1, hn⟩, ⟨h2, hc⟩, ⟨pl, h3, hp⟩, hJ⟩ := id hF
  have c9 : Cok (m) (S_house (σ.1 5 0) nh a b) := C_house hW h1 hn h2 hc h3 hp
  exact (t_X7_house hA hl hnx hx9 hcn hc8 (fun i hi => hF.2.wok.bon hi) h1 hn c9.hne).weaken (fun r G' h => PY.of c9 (by omega) (G_house hJ h1 hn h2 hc) h) (fun E G' h => PN.of hF h)
theorem g_X7_order {D : va_G} {s0 : State} {l : Launch} {B : Nat} {A : AT} {σ : Sg} (hA : AOK B A) (hl : l.stackTraces = false) {m nh nc : Nat} (hF : FK σ m nh nc) (hm : m ≤ 1000) {a b : Int32} : Tri D s0 l yX7_order cX7_order 3 ((some .int)) 3 1 6 [.ref (A 0 0 0), .int a, .int b] (HP A σ) (PY A σ (S_order (σ.1 5 0) nh a b) m nh nc (fun _ => 0)) (PN A σ (S_order (σ.1 5 0) nh a b) m nh nc) := by
  obtain ⟨⟨⟨nx, hnx, hx9⟩, cn, hcn, hc8⟩, hW, ⟨h1, hn⟩, ⟨h2, hc⟩, ⟨pl, h3, hp⟩, hJ⟩ := id hF
  have c9 : Cok (m) (S_order (σ.1 5 0) nh a b) := C_order hW h1 hn h2 hc h3 hp
  exact (t_X7_order hA hl hnx hx9 hcn hc8 (fun i hi => hF.2.wok.bon hi) h1 hn c9.hne).weaken (fun r G' h => PY.of c9 (by omega) (G_order hJ h1 hn h2 hc) h) (fun E G' h => PN.of hF h)
theorem g_X7_carrier {D : va_G} {s0 : State} {l : Launch} {B : Nat} {A : AT} {σ : Sg} (hA : AOK B A) (hl : l.stackTraces = false) {m nh nc : Nat} (hF : FK σ m nh nc) (hm : m ≤ 1000) {a : Int32} : Tri D s0 l yX7_carrier cX7_carrier 2 ((some .int)) 3 1 6 [.ref (A 0 0 0), .int a] (HP A σ) (PY A σ (S_carrier (σ.1 5 0) nc a) m nh nc (fun _ => 0)) (PN A σ (S_carrier (σ.1 5 0) nc a) m nh nc) := by
  obtain ⟨⟨⟨nx, hnx, hx9⟩, cn, hcn, hc8⟩, hW, ⟨h1, hn⟩, ⟨h2, hc⟩, ⟨pl, h3, hp⟩, hJ⟩ := id hF
  have c9 : Cok (m) (S_carrier (σ.1 5 0) nc a) := C_carrier hW h1 hn h2 hc h3 hp
  exact (t_X7_carrier hA hl hnx hx9 hcn hc8 (fun i hi => hF.2.wok.bon hi) h2 hc c9.hne).weaken (fun r G' h => PY.of c9 (by omega) (G_carrier hJ h1 hn h2 hc) h) (fun E G' h => PN.of hF h)
theorem g_X7_load {D : va_G} {s0 : State} {l : Launch} {B : Nat} {A : AT} {σ : Sg} (hA : AOK B A) (hl : l.stackTraces = false) {m nh nc : Nat} (hF : FK σ m nh nc) (hm : m ≤ 1000) {a : Int32} : Tri D s0 l yX7_load cX7_load 2 ((some .int)) 3 1 6 [.ref (A 0 0 0), .int a] (HP A σ) (PY A σ (S_load (σ.1 5 0) a) m nh nc (fun _ => 0)) (PN A σ (S_load (σ.1 5 0) a) m nh nc) := by
  obtain ⟨⟨⟨nx, hnx, hx9⟩, cn, hcn, hc8⟩, hW, ⟨h1, hn⟩, ⟨h2, hc⟩, ⟨pl, h3, hp⟩, hJ⟩ := id hF
  have c9 : Cok (m) (S_load (σ.1 5 0) a) := C_load hW h1 hn h2 hc h3 hp
  exact (t_X7_load hA hl hnx hx9 hcn hc8 (fun i hi => hF.2.wok.bon hi)  c9.hne).weaken (fun r G' h => PY.of c9 (by omega) (G_load hJ h1 hn h2 hc) h) (fun E G' h => PN.of hF h)
theorem g_X7_drive {D : va_G} {s0 : State} {l : Launch} {B : Nat} {A : AT} {σ : Sg} (hA : AOK B A) (hl : l.stackTraces = false) {m nh nc : Nat} (hF : FK σ m nh nc) (hm : m ≤ 1000) {a : Int32} : Tri D s0 l yX7_drive cX7_drive 2 ((some .int)) 3 1 6 [.ref (A 0 0 0), .int a] (HP A σ) (PY A σ (S_drive (σ.1 5 0) nh a) m nh nc (fun _ => 0)) (PN A σ (S_drive (σ.1 5 0) nh a) m nh nc) := by
  obtain ⟨⟨⟨nx, hnx, hx9⟩, cn, hcn, hc8⟩, hW, ⟨h1, hn⟩, ⟨h2, hc⟩, ⟨pl, h3, hp⟩, hJ⟩ := id hF
  have c9 : Cok (m) (S_drive (σ.1 5 0) nh a) := C_drive hW h1 hn h2 hc h3 hp
  exact (t_X7_drive hA hl hnx hx9 hcn hc8 (fun i hi => hF.2.wok.bon hi) h1 hn c9.hne).weaken (fun r G' h => PY.of c9 (by omega) (G_drive hJ h1 hn h2 hc) h) (fun E G' h => PN.of hF h)
theorem g_X7_carry {D : va_G} {s0 : State} {l : Launch} {B : Nat} {A : AT} {σ : Sg} (hA : AOK B A) (hl : l.stackTraces = false) {m nh nc : Nat} (hF : FK σ m nh nc) (hm : m ≤ 1000) {pl : Nat} (h3 : σ.1 5 0 3 = nI pl) (hp : pl ≤ nh) {a b : Int32} : Tri D s0 l yX7_carry cX7_carry 3 ((some .int)) 4 1 6 [.ref (A 0 0 0), .int a, .int b] (HP A σ) (PY A σ (S_carry (σ.1 5 0) nc pl a b) m nh nc (fun _ => 0)) (PN A σ (S_carry (σ.1 5 0) nc pl a b) m nh nc) := by
  obtain ⟨⟨⟨nx, hnx, hx9⟩, cn, hcn, hc8⟩, hW, ⟨h1, hn⟩, ⟨h2, hc⟩, ⟨_, -, -⟩, hJ⟩ := id hF
  have c9 : Cok (m) (S_carry (σ.1 5 0) nc pl a b) := C_carry hW h1 hn h2 hc h3 hp
  exact (t_X7_carry hA hl hnx hx9 hcn hc8 (fun i hi => hF.2.wok.bon hi) h1 hn h2 hc h3 hp c9.hne).weaken (fun r G' h => PY.of c9 (by omega) (G_carry hJ h1 hn h2 hc hp) h) (fun E G' h => PN.of hF h)
theorem g_X7_bone {D : va_G} {s0 : State} {l : Launch} {B : Nat} {A : AT} {σ : Sg} (hA : AOK B A) (hl : l.stackTraces = false) {m nh nc : Nat} (hF : FK σ m nh nc) (hm : m ≤ 1000) {pl : Nat} (h3 : σ.1 5 0 3 = nI pl) (hp : pl ≤ nh) : Tri D s0 l yX7_bone cX7_bone 1 ((some .int)) 4 1 6 [.ref (A 0 0 0)] (HP A σ) (PY A σ (S_bone (σ.1 5 0) pl) m nh nc (fun _ => 0)) (PN A σ (S_bone (σ.1 5 0) pl) m nh nc) := by
  obtain ⟨⟨⟨nx, hnx, hx9⟩, cn, hcn, hc8⟩, hW, ⟨h1, hn⟩, ⟨h2, hc⟩, ⟨_, -, -⟩, hJ⟩ := id hF
  have c9 : Cok (m) (S_bone (σ.1 5 0) pl) := C_bone hm hW h1 hn h2 hc h3 hp
  exact (t_X7_bone hA hl hnx hx9 hcn hc8 (fun i hi => hF.2.wok.bon hi) h1 hn h3 hp c9.hne).weaken (fun r G' h => PY.of c9 (by omega) (G_bone hJ h1 hn h2 hc hp) h) (fun E G' h => PN.of hF h)
theorem g_X7_bones {D : va_G} {s0 : State} {l : Launch} {B : Nat} {A : AT} {σ : Sg} (hA : AOK B A) (hl : l.stackTraces = false) {m nh nc : Nat} (hF : FK σ m nh nc) (hm : m ≤ 1000) {a : Int32} : Tri D s0 l yX7_bones cX7_bones 2 ((some .int)) 3 1 6 [.ref (A 0 0 0), .int a] (HP A σ) (PY A σ (S_bones (σ.1 5 0) a) m nh nc (fun w' => w' 8 - σ.1 5 0 8)) (PN A σ (S_bones (σ.1 5 0) a) m nh nc) := by
  obtain ⟨⟨⟨nx, hnx, hx9⟩, cn, hcn, hc8⟩, hW, ⟨h1, hn⟩, ⟨h2, hc⟩, ⟨pl, h3, hp⟩, hJ⟩ := id hF
  have c9 : Cok (m + 1) (S_bones (σ.1 5 0) a) := C_bones hm hF.2.wok
  exact (t_X7_bones hA hl hnx hx9 hcn hc8 (fun i hi => hF.2.wok.bon hi)  c9.hne).weaken (fun r G' h => PY.of c9 (by omega) (G_bones hW hm hJ h1 hn h2 hc) h) (fun E G' h => PN.of hF h)
theorem g_X7_mop {D : va_G} {s0 : State} {l : Launch} {B : Nat} {A : AT} {σ : Sg} (hA : AOK B A) (hl : l.stackTraces = false) {m nh nc : Nat} (hF : FK σ m nh nc) (hm : m ≤ 1000) {pl : Nat} (h3 : σ.1 5 0 3 = nI pl) (hp : pl ≤ nh) {a : Int32} : Tri D s0 l yX7_mop cX7_mop 2 ((some .int)) 4 1 6 [.ref (A 0 0 0), .int a] (HP A σ) (PY A σ (S_mop (σ.1 5 0) nc pl a) m nh nc (fun _ => 0)) (PN A σ (S_mop (σ.1 5 0) nc pl a) m nh nc) := by
  obtain ⟨⟨⟨nx, hnx, hx9⟩, cn, hcn, hc8⟩, hW, ⟨h1, hn⟩, ⟨h2, hc⟩, ⟨_, -, -⟩, hJ⟩ := id hF
  have c9 : Cok (m) (S_mop (σ.1 5 0) nc pl a) := C_mop hW h1 hn h2 hc h3 hp
  exact (t_X7_mop hA hl hnx hx9 hcn hc8 (fun i hi => hF.2.wok.bon hi) h1 hn h2 hc h3 hp c9.hne).weaken (fun r G' h => PY.of c9 (by omega) (G_mop hJ h1 hn h2 hc hp) h) (fun E G' h => PN.of hF h)
theorem g_X7_pay {D : va_G} {s0 : State} {l : Launch} {B : Nat} {A : AT} {σ : Sg} (hA : AOK B A) (hl : l.stackTraces = false) {m nh nc : Nat} (hF : FK σ m nh nc) (hm : m ≤ 1000) {a b : Int32} : Tri D s0 l yX7_pay cX7_pay 3 ((some .int)) 3 1 6 [.ref (A 0 0 0), .int a, .int b] (HP A σ) (PY A σ (S_pay (σ.1 5 0) nh a b) m nh nc (fun _ => 0)) (PN A σ (S_pay (σ.1 5 0) nh a b) m nh nc) := by
  obtain ⟨⟨⟨nx, hnx, hx9⟩, cn, hcn, hc8⟩, hW, ⟨h1, hn⟩, ⟨h2, hc⟩, ⟨pl, h3, hp⟩, hJ⟩ := id hF
  have c9 : Cok (m) (S_pay (σ.1 5 0) nh a b) := C_pay hW h1 hn h2 hc h3 hp
  exact (t_X7_pay hA hl hnx hx9 hcn hc8 (fun i hi => hF.2.wok.bon hi) h1 hn c9.hne).weaken (fun r G' h => PY.of c9 (by omega) (G_pay hJ h1 hn h2 hc) h) (fun E G' h => PN.of hF h)
theorem g_X7_shoe {D : va_G} {s0 : State} {l : Launch} {B : Nat} {A : AT} {σ : Sg} (hA : AOK B A) (hl : l.stackTraces = false) {m nh nc : Nat} (hF : FK σ m nh nc) (hm : m ≤ 1000) {a : Int32} : Tri D s0 l yX7_shoe cX7_shoe 2 ((some .int)) 3 1 6 [.ref (A 0 0 0), .int a] (HP A σ) (PY A σ (S_shoe (σ.1 5 0) a) m nh nc (fun _ => 4)) (PN A σ (S_shoe (σ.1 5 0) a) m nh nc) := by
  obtain ⟨⟨⟨nx, hnx, hx9⟩, cn, hcn, hc8⟩, hW, ⟨h1, hn⟩, ⟨h2, hc⟩, ⟨pl, h3, hp⟩, hJ⟩ := id hF
  have c9 : Cok (m) (S_shoe (σ.1 5 0) a) := C_shoe hW h1 hn h2 hc h3 hp
  exact (t_X7_shoe hA hl hnx hx9 hcn hc8 (fun i hi => hF.2.wok.bon hi)  c9.hne).weaken (fun r G' h => PY.of c9 (by omega) (G_shoe hJ h1 hn h2 hc) h) (fun E G' h => PN.of hF h)
theorem g_X7_days {D : va_G} {s0 : State} {l : Launch} {B : Nat} {A : AT} {σ : Sg} (hA : AOK B A) (hl : l.stackTraces = false) {m nh nc : Nat} (hF : FK σ m nh nc) (hm : m ≤ 1000) {a : Int32} : Tri D s0 l yX7_days cX7_days 2 ((some .int)) 4 1 6 [.ref (A 0 0 0), .int a] (HP A σ) (PY A σ (S_days (σ.1 5 0) nh nc a) m nh nc (fun _ => 0)) (PN A σ (S_days (σ.1 5 0) nh nc a) m nh nc) := by
  obtain ⟨⟨⟨nx, hnx, hx9⟩, cn, hcn, hc8⟩, hW, ⟨h1, hn⟩, ⟨h2, hc⟩, ⟨pl, h3, hp⟩, hJ⟩ := id hF
  have c9 : Cok (m) (S_days (σ.1 5 0) nh nc a) := C_days hW h1 hn h2 hc h3 hp
  exact (t_X7_days hA hl hnx hx9 hcn hc8 (fun i hi => hF.2.wok.bon hi) h1 hn h2 hc c9.hne).weaken (fun r G' h => PY.of c9 (by omega) (G_days hJ h1 hn h2 hc) h) (fun E G' h => PN.of hF h)
