/-! a bone lies only where a dog lives: then both lines are one -/
def Bd (nh : Nat) (w : Nat → Int32) : Prop := ∀ i, i < 8 → w (hx i 7) = 1 → ¬ w (hx i 1) = 0 ∧ i < nh
def N17 (j : Nat) : Prop := ∀ i, i < 8 → ¬ hx i 7 = j ∧ ¬ hx i 1 = j
theorem N17.l {j : Nat} (h : j < 14) : N17 j := fun i hi => ⟨hl_ne h, hl_ne h⟩
theorem N17.k {c f : Nat} : N17 (kx c f) := fun i hi => ⟨fun z => kh_ne hi (by decide) z.symm, fun z => kh_ne hi (by decide) z.symm⟩
theorem N17.h {h f : Nat} (hf : f < 9) (h1 : ¬ 1 = f) (h7 : ¬ 7 = f) : N17 (hx h f) := fun i hi => ⟨hh_ne (by decide) hf h7, hh_ne (by decide) hf h1⟩
theorem Bd.u1 {nh j : Nat} {w : Nat → Int32} {x : Int32} (h : Bd nh w) (hj : N17 j) : Bd nh (up w j x) := fun i hi hb => by
  rw [up_ne (hj i hi).1] at hb
  rw [up_ne (hj i hi).2]
  exact h i hi hb
theorem Bd.z {nh k : Nat} {w : Nat → Int32} (h : Bd nh w) : Bd nh (up w (hx k 7) 0) := fun i hi hb => by
  by_cases e : hx i 7 = hx k 7
  · rw [e, up_at] at hb
    exact absurd hb (by decide)
  · rw [up_ne e] at hb
    rw [up_ne (hh_ne (by decide) (by decide) (by decide))]
    exact h i hi hb
theorem Bd.o {nh k : Nat} {w : Nat → Int32} (h : Bd nh w) (hk : k < nh) (hd : ¬ w (hx k 1) = 0) : Bd nh (up w (hx k 7) 1) := fun i hi hb => by
  rw [up_ne (hh_ne (by decide) (by decide) (by decide))]
  by_cases e : hx i 7 = hx k 7
  · obtain rfl : i = k := ((hx_inj (by decide) (by decide)).mp e).1
    exact ⟨hd, hk⟩
  · rw [up_ne e] at hb
    exact h i hi hb
theorem Bd.u4 {nh : Nat} {w : Nat → Int32} {p : Int32} (h : Bd nh w) : ∀ i, i ≤ 4 → Bd nh (S_upw w p i)
  | 0, _ => h
  | i + 1, hi => by
    unfold S_upw
    exact (h.u4 i (by omega)).u1 (N17.l (by omega))
theorem Bd.sks {nh c k : Nat} {w : Nat → Int32} (h : Bd nh w) (hk : k < 8) : ∀ i, Bd nh (S_sks w c k i)
  | 0 => h
  | i + 1 => by
    rw [S_sks, S_sack_e hk]
    exact ((((((((h.sks hk i).u1 N17.k).u1 N17.k).u1 N17.k).u1 (N17.h (by decide) (by decide) (by decide))).u1 (N17.h (by decide) (by decide) (by decide))).u1 (N17.h (by decide) (by decide) (by decide))).u1 (N17.h (by decide) (by decide) (by decide))).u1 (N17.h (by decide) (by decide) (by decide))
theorem Bd.dayh {nh : Nat} {w : Nat → Int32} {nw : Bool} (h : Bd nh w) : ∀ i, Bd nh (S_dayh w nw i)
  | 0 => h
  | i + 1 => by
    unfold S_dayh S_hweek S_hday
    split
    · exact (((h.dayh i).u1 (N17.h (h := i) (f := 6) (by decide) (by decide) (by decide))).z (k := i)).u1 (N17.h (h := i) (f := 3) (by decide) (by decide) (by decide))
    · exact ((h.dayh i).u1 (N17.h (h := i) (f := 6) (by decide) (by decide) (by decide))).z (k := i)
theorem Bd.dayc {nh : Nat} {w : Nat → Int32} (h : Bd nh w) : ∀ i, Bd nh (S_dayc w i)
  | 0 => h
  | i + 1 => by
    unfold S_dayc S_cday
    exact ((h.dayc i).u1 N17.k).u1 N17.k
theorem Bd.dys {nh a b : Nat} {w : Nat → Int32} (h : Bd nh w) : ∀ i, Bd nh (S_dys w a b i)
  | 0 => h
  | i + 1 => by
    unfold S_dys S_day
    exact (((h.dys i).u1 (N17.l (by decide))).dayh a).dayc b
theorem Bd.cmd {nh nc pl q : Nat} {w : Nat → Int32} {a b : Int32} (h : Bd nh w) (hn : nh ≤ 8) (hp : pl ≤ nh) : Bd nh (S_cmd w nh nc pl q a b).2.2 := by
  rcases q with _ | _ | _ | _ | _ | _ | _ | q
  · show Bd nh (S_drive w nh a).2.2
    unfold S_drive S_drive_w S_up
    repeat' split
    all_goals first | exact h | exact ((h.u4 4 (by decide)).u1 (N17.l (by decide))).u1 (N17.l (by decide))
  · show Bd nh (S_load w a).2.2
    unfold S_load S_load_w
    repeat' split
    all_goals first | exact h | exact (h.u1 (N17.l (by decide))).u1 (N17.l (by decide))
  · show Bd nh (S_carry w nc pl a b).2.2
    unfold S_carry S_carry_w
    repeat' split
    all_goals first | exact h | exact (h.sks (by omega) _).u1 (N17.l (by decide))
  · show Bd nh (S_bone w pl).2.2
    unfold S_bone S_bone_w
    split
    · exact h
    · split
      · exact h
      · split
        · exact h
        · rename_i g1 g2 g3
          exact (h.o (by omega) (fun z => g2 (Or.inl z))).u1 (N17.l (by decide))
  · show Bd nh (S_mop w nc pl a).2.2
    unfold S_mop S_mop_w
    repeat' split
    all_goals first | exact h | exact (h.u1 N17.k).u1 (N17.h (by decide) (by decide) (by decide))
  · show Bd nh (S_pay w nh a b).2.2
    unfold S_pay S_pay_w
    repeat' split
    all_goals first | exact h | exact ((h.u1 (N17.h (by decide) (by decide) (by decide))).u1 (N17.l (by decide))).u1 (N17.l (by decide))
  · show Bd nh (S_shoe w a).2.2
    unfold S_shoe S_shoe_w
    split
    · exact h
    · rename_i g1
      obtain ⟨j, hj, rfl⟩ := ob_ex (n := 4) (by omega) (Bool.not_eq_true _ ▸ g1 : ob a 0 (nI 4 - 1) = false)
      rw [nI_clamp (by omega : j < 2 ^ 31)]
      repeat' split
      all_goals first | exact h | exact (h.u1 (N17.l (by decide))).u1 (N17.l (by omega))
  · show Bd nh (S_days w nh nc a).2.2
    unfold S_days
    split
    · exact h
    · exact h.dys _
theorem Bd.bones {nh : Nat} {w : Nat → Int32} {n : Int32} (h : Bd nh w) : Bd nh (S_bones w n).2.2 := by
  unfold S_bones S_bones_w
  repeat' split
  all_goals first | exact h | exact (h.u1 (N17.l (by decide))).u1 (N17.l (by decide))
theorem Bd.carrier {nh nc : Nat} {w : Nat → Int32} {x : Int32} (h : Bd nh w) : Bd nh (S_carrier w nc x).2.2 := by
  unfold S_carrier S_carrier_w
  repeat' split
  all_goals first | exact h | exact (h.u1 N17.k).u1 (N17.l (by decide))
theorem Bd.order {nh : Nat} {w : Nat → Int32} {x n : Int32} (h : Bd nh w) : Bd nh (S_order w nh x n).2.2 := by
  unfold S_order
  repeat' split
  all_goals first | exact h | exact h.u1 (N17.h (by decide) (by decide) (by decide))
/-- a new house: no bone lies there -/
theorem Bd.house {nh : Nat} {w : Nat → Int32} {fl dg : Int32} (h : Bd nh w) (hn : nh ≤ 8) (hS : (S_house w nh fl dg).1.1 = 0) : Bd (nh + 1) (S_house w nh fl dg).2.2 := by
  revert hS
  unfold S_house
  split
  · intro z
    exact absurd z (by decide : ¬ (1 : Int32) = 0)
  · split
    · intro z
      exact absurd z (by decide : ¬ (1 : Int32) = 0)
    · split
      · intro z
        exact absurd z (by decide : ¬ (2 : Int32) = 0)
      · intro _
        show Bd (nh + 1) (S_house_w w nh fl dg)
        unfold S_house_w
        refine Bd.u1 (fun i hi hb => ?_) (N17.l (by decide))
        rw [up_ne (hh_ne (by decide) (by decide) (by decide)), up_ne (hh_ne (by decide) (by decide) (by decide))] at hb
        obtain ⟨u1, u2⟩ := h i hi hb
        rw [up_ne (fun z => by have := ((hx_inj (by decide) (by decide)).mp z).1; omega), up_ne (hh_ne (by decide) (by decide) (by decide))]
        exact ⟨u1, by omega⟩
theorem dogT_R {m nh h : Nat} {w : Nat → Int32} (hW : Wok m w) (hB : Bd nh w) (hh : h < 8) : dogT (w (hx h 7)) (w (hx h 1)) = dogR (w (hx h 7)) (w (hx h 1)) := by
  rcases hW.bon hh with b | b
  · rw [b]
    rcases hW.dog hh with d | d | d <;> rw [d] <;> rfl
  · obtain ⟨u1, -⟩ := hB h hh b
    rw [b]
    rcases hW.dog hh with d | d | d
    · exact absurd d u1
    · rw [d]
      rfl
    · rw [d]
      rfl
theorem lnT_R {m nh h : Nat} {w : Nat → Int32} (hW : Wok m w) (hB : Bd nh w) (hh : h < 8) : lnT w h = lnR w h := by
  unfold lnT lnR
  rw [dogT_R hW hB hh]

