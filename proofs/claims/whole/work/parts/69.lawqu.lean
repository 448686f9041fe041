/-! the law: the questions -/
theorem pos_nI {e : Nat} (h : 1 ≤ e) (h2 : e ≤ 12) : 0 < nI e := by
  rcases (by omega : e = 1 ∨ e = 2 ∨ e = 3 ∨ e = 4 ∨ e = 5 ∨ e = 6 ∨ e = 7 ∨ e = 8 ∨ e = 9 ∨ e = 10 ∨ e = 11 ∨ e = 12) with rfl | rfl | rfl | rfl | rfl | rfl | rfl | rfl | rfl | rfl | rfl | rfl <;> decide
set_option maxHeartbeats 2000000 in
theorem lc_houseOf {D : va_G} {s0 : State} {mn : String} {nL : Nat} {ret : Option FieldType} {hh : List (Nat × Nat × Nat × Nat)} {l : Launch} {R : Room} {Z : ZT} {A : AT} {b0 L i : Nat} {xs : Nat → Int32} {cells slots m : Nat} {σ : Sg} (hl : l.stackTraces = false) (hA : AOK s0.heap.size A) (H : LH s0 R nL b0 L i xs cells slots) (hm9 : m ≤ 600) (iv : IV A m σ) (kk : ∀ σ2 : Sg, IV A (m + 1) σ2 → V D s0 RL mn cL_law nL ret hh l R Z 2081 (LO A b0 i) [] (HP A σ2) (cells + 24) (slots + 816)) : V D s0 RL mn cL_law nL ret hh l R Z 912 (LO A b0 i) [] (HP A σ) cells slots := by
  have iv9 := iv
  obtain ⟨nx, w, cn, h, sf, sv, rr, tl, tx, ft, T, c, q, mi, sb⟩ := iv
  have ew := c.1
  subst ew
  have hW := mi.1.wok
  have bo := mi.1.bo
  obtain ⟨hb, nh, nc, pl, ⟨h1, hn⟩, ⟨h2, hc⟩, ⟨h3, hp⟩, hd⟩ := mi.1
  obtain ⟨hnx, hx9, hcn, hc8⟩ := c.2.1
  have hK : (K_houseOf (σ.1 5 0) nh (xs (i + 1)) (xs (i + 2))).1 ≤ 2 := by
    unfold K_houseOf
    repeat' split
    all_goals exact Nat.le_of_ble_eq_true rfl
  refine law_c2 (p := 912) (e2 := 2) (RR := fun k b σ2 => RDY A (m + 1) σ2 k b) hA H csh_L_170 cv_L_172 rfl (t_L_houseOf hA (d := 10) (t_X7_houseOf hA hl h1 hn (x := (xs (i + 1))) (q := (xs (i + 2)))) (fun r G' z => ⟨σ, _, z.2.1, z.2.2⟩) (fun E G' z => ⟨ifE z.2.1, σ, z.2.2⟩) (by decide)) (qst2 (K := K_houseOf (σ.1 5 0) nh (xs (i + 1)) (xs (i + 2))) (E := "java/lang/IndexOutOfBoundsException") (F := "java/lang/IllegalArgumentException") hA (by decide) hK) (fun k σ1 qq => ?_) (by decide) (by decide) (by decide) (by decide) dL_law_912 dL_law_913 dL_law_914 dL_law_916 dL_law_917 dL_law_918 dL_law_919 dL_law_920 dL_law_922 dL_law_923 dL_law_924 dL_law_925 dL_law_926 dL_law_929 dL_law_931 dL_law_932 dL_law_933 dL_law_935 dL_law_936 dL_law_937 dL_law_938 dL_law_939 dL_law_941 dL_law_942 dL_law_943 dL_law_944 dL_law_947 (fun k b σ2 hr => law_tail hA H hr dL_law_949 dL_law_950 dL_law_953 dL_law_955 dL_law_960 dL_law_962 dL_law_965 dL_law_966 dL_law_967 dL_law_968 dL_law_970 dL_law_971 dL_law_972 dL_law_977 (by decide) (kk σ2 hr.2.2.2))
  have e21 : σ1.1 21 0 = σ.1 5 0 := (congrFun (congrFun qq.a 21) 0).trans q.1
  have M := Tri.qs (t_X8_houseOf (D := D) (s0 := s0) (l := l) (σ := σ1) hA (P := (σ1.1 20 0 15, σ1.1 20 0 16)) (u := σ1.1 21 0) ((congrFun e21 1).trans h1) hn (fun h9 hh9 => by rw [e21]; exact hW.dog hh9) (fun h9 hh9 => by rw [e21]; exact hW.bon hh9) (x := (xs (i + 1))) (q := (xs (i + 2))))
  rw [e21] at M
  exact M.weaken (fun r G' z => ⟨_, _, z.1, z.2, qst_r iv9 qq (by omega)⟩) (fun _ _ z => z)

set_option maxHeartbeats 2000000 in
theorem lc_carrierOf {D : va_G} {s0 : State} {mn : String} {nL : Nat} {ret : Option FieldType} {hh : List (Nat × Nat × Nat × Nat)} {l : Launch} {R : Room} {Z : ZT} {A : AT} {b0 L i : Nat} {xs : Nat → Int32} {cells slots m : Nat} {σ : Sg} (hl : l.stackTraces = false) (hA : AOK s0.heap.size A) (H : LH s0 R nL b0 L i xs cells slots) (hm9 : m ≤ 600) (iv : IV A m σ) (kk : ∀ σ2 : Sg, IV A (m + 1) σ2 → V D s0 RL mn cL_law nL ret hh l R Z 2081 (LO A b0 i) [] (HP A σ2) (cells + 24) (slots + 816)) : V D s0 RL mn cL_law nL ret hh l R Z 980 (LO A b0 i) [] (HP A σ) cells slots := by
  have iv9 := iv
  obtain ⟨nx, w, cn, h, sf, sv, rr, tl, tx, ft, T, c, q, mi, sb⟩ := iv
  have ew := c.1
  subst ew
  have hW := mi.1.wok
  have bo := mi.1.bo
  obtain ⟨hb, nh, nc, pl, ⟨h1, hn⟩, ⟨h2, hc⟩, ⟨h3, hp⟩, hd⟩ := mi.1
  obtain ⟨hnx, hx9, hcn, hc8⟩ := c.2.1
  have hK : (K_carrierOf (σ.1 5 0) nc (xs (i + 1)) (xs (i + 2))).1 ≤ 2 := by
    unfold K_carrierOf
    repeat' split
    all_goals exact Nat.le_of_ble_eq_true rfl
  refine law_c2 (p := 980) (e2 := 2) (RR := fun k b σ2 => RDY A (m + 1) σ2 k b) hA H csh_L_173 cv_L_175 rfl (t_L_carrierOf hA (d := 10) (t_X7_carrierOf hA hl h2 hc (x := (xs (i + 1))) (q := (xs (i + 2)))) (fun r G' z => ⟨σ, _, z.2.1, z.2.2⟩) (fun E G' z => ⟨ifE z.2.1, σ, z.2.2⟩) (by decide)) (qst2 (K := K_carrierOf (σ.1 5 0) nc (xs (i + 1)) (xs (i + 2))) (E := "java/lang/IndexOutOfBoundsException") (F := "java/lang/IllegalArgumentException") hA (by decide) hK) (fun k σ1 qq => ?_) (by decide) (by decide) (by decide) (by decide) dL_law_980 dL_law_981 dL_law_982 dL_law_984 dL_law_985 dL_law_986 dL_law_987 dL_law_988 dL_law_990 dL_law_991 dL_law_992 dL_law_993 dL_law_994 dL_law_997 dL_law_999 dL_law_1000 dL_law_1001 dL_law_1003 dL_law_1004 dL_law_1005 dL_law_1006 dL_law_1007 dL_law_1009 dL_law_1010 dL_law_1011 dL_law_1012 dL_law_1015 (fun k b σ2 hr => law_tail hA H hr dL_law_1017 dL_law_1018 dL_law_1021 dL_law_1023 dL_law_1028 dL_law_1030 dL_law_1033 dL_law_1034 dL_law_1035 dL_law_1036 dL_law_1038 dL_law_1039 dL_law_1040 dL_law_1045 (by decide) (kk σ2 hr.2.2.2))
  have e21 : σ1.1 21 0 = σ.1 5 0 := (congrFun (congrFun qq.a 21) 0).trans q.1
  have M := Tri.qs (t_X8_carrierOf (D := D) (s0 := s0) (l := l) (σ := σ1) hA (P := (σ1.1 20 0 15, σ1.1 20 0 16)) (u := σ1.1 21 0) ((congrFun e21 2).trans h2) hc (x := (xs (i + 1))) (q := (xs (i + 2))))
  rw [e21] at M
  exact M.weaken (fun r G' z => ⟨_, _, z.1, z.2, qst_r iv9 qq (by omega)⟩) (fun _ _ z => z)

set_option maxHeartbeats 2000000 in
theorem lc_shoeOf {D : va_G} {s0 : State} {mn : String} {nL : Nat} {ret : Option FieldType} {hh : List (Nat × Nat × Nat × Nat)} {l : Launch} {R : Room} {Z : ZT} {A : AT} {b0 L i : Nat} {xs : Nat → Int32} {cells slots m : Nat} {σ : Sg} (hl : l.stackTraces = false) (hA : AOK s0.heap.size A) (H : LH s0 R nL b0 L i xs cells slots) (hm9 : m ≤ 600) (iv : IV A m σ) (kk : ∀ σ2 : Sg, IV A (m + 1) σ2 → V D s0 RL mn cL_law nL ret hh l R Z 2081 (LO A b0 i) [] (HP A σ2) (cells + 24) (slots + 816)) : V D s0 RL mn cL_law nL ret hh l R Z 1048 (LO A b0 i) [] (HP A σ) cells slots := by
  have iv9 := iv
  obtain ⟨nx, w, cn, h, sf, sv, rr, tl, tx, ft, T, c, q, mi, sb⟩ := iv
  have ew := c.1
  subst ew
  have hW := mi.1.wok
  have bo := mi.1.bo
  obtain ⟨hb, nh, nc, pl, ⟨h1, hn⟩, ⟨h2, hc⟩, ⟨h3, hp⟩, hd⟩ := mi.1
  obtain ⟨hnx, hx9, hcn, hc8⟩ := c.2.1
  have hK : (K_shoeOf (σ.1 5 0) (xs (i + 1))).1 ≤ 1 := by
    unfold K_shoeOf
    repeat' split
    all_goals exact Nat.le_of_ble_eq_true rfl
  refine law_c1 (p := 1048) (e2 := 2) (RR := fun k b σ2 => RDY A (m + 1) σ2 k b) hA H csh_L_176 cv_L_178 rfl (t_L_shoeOf hA (d := 10) (t_X7_shoeOf hA hl  (x := (xs (i + 1)))) (fun r G' z => ⟨σ, _, z.2.1, z.2.2⟩) (fun E G' z => ⟨ifE1 z.1 hK z.2.1, σ, z.2.2⟩) (by decide)) (qst1 (K := K_shoeOf (σ.1 5 0) (xs (i + 1))) (E := "java/lang/IndexOutOfBoundsException") hA (by decide)) (fun k σ1 qq => ?_) (by decide) (by decide) (by decide) (by decide) dL_law_1048 dL_law_1049 dL_law_1050 dL_law_1052 dL_law_1053 dL_law_1054 dL_law_1055 dL_law_1056 dL_law_1059 dL_law_1061 dL_law_1062 dL_law_1063 dL_law_1065 dL_law_1066 dL_law_1067 dL_law_1068 dL_law_1071 (fun k b σ2 hr => law_tail hA H hr dL_law_1073 dL_law_1074 dL_law_1077 dL_law_1079 dL_law_1084 dL_law_1086 dL_law_1089 dL_law_1090 dL_law_1091 dL_law_1092 dL_law_1094 dL_law_1095 dL_law_1096 dL_law_1101 (by decide) (kk σ2 hr.2.2.2))
  have e21 : σ1.1 21 0 = σ.1 5 0 := (congrFun (congrFun qq.a 21) 0).trans q.1
  have M := Tri.qs (t_X8_shoeOf (D := D) (s0 := s0) (l := l) (σ := σ1) hA (P := (σ1.1 20 0 15, σ1.1 20 0 16)) (u := σ1.1 21 0)  (x := (xs (i + 1))))
  rw [e21] at M
  exact M.weaken (fun r G' z => ⟨_, _, z.1, z.2, qst_r iv9 qq (by omega)⟩) (fun _ _ z => z)

set_option maxHeartbeats 2000000 in
theorem lc_tires {D : va_G} {s0 : State} {mn : String} {nL : Nat} {ret : Option FieldType} {hh : List (Nat × Nat × Nat × Nat)} {l : Launch} {R : Room} {Z : ZT} {A : AT} {b0 L i : Nat} {xs : Nat → Int32} {cells slots m : Nat} {σ : Sg} (hl : l.stackTraces = false) (hA : AOK s0.heap.size A) (H : LH s0 R nL b0 L i xs cells slots) (hm9 : m ≤ 600) (iv : IV A m σ) (kk : ∀ σ2 : Sg, IV A (m + 1) σ2 → V D s0 RL mn cL_law nL ret hh l R Z 2081 (LO A b0 i) [] (HP A σ2) (cells + 24) (slots + 816)) : V D s0 RL mn cL_law nL ret hh l R Z 1104 (LO A b0 i) [] (HP A σ) cells slots := by
  have iv9 := iv
  obtain ⟨nx, w, cn, h, sf, sv, rr, tl, tx, ft, T, c, q, mi, sb⟩ := iv
  have ew := c.1
  subst ew
  have hW := mi.1.wok
  have bo := mi.1.bo
  obtain ⟨hb, nh, nc, pl, ⟨h1, hn⟩, ⟨h2, hc⟩, ⟨h3, hp⟩, hd⟩ := mi.1
  obtain ⟨hnx, hx9, hcn, hc8⟩ := c.2.1
  have hK : (K_tires (σ.1 5 0) nh nc (xs (i + 1)) (xs (i + 2))).1 ≤ 1 := by
    unfold K_tires
    repeat' split
    all_goals exact Nat.le_of_ble_eq_true rfl
  refine law_c2 (p := 1104) (e2 := 2) (RR := fun k b σ2 => RDY A (m + 1) σ2 k b) hA H csh_L_179 cv_L_181 rfl (t_L_tires hA (d := 10) (t_X7_tires hA hl h1 hn h2 hc (x := (xs (i + 1))) (y := (xs (i + 2)))) (fun r G' z => ⟨σ, _, z.2.1, z.2.2⟩) (fun E G' z => ⟨ifE1 z.1 hK z.2.1, σ, z.2.2⟩) (by decide)) (qst1 (K := K_tires (σ.1 5 0) nh nc (xs (i + 1)) (xs (i + 2))) (E := "java/lang/IndexOutOfBoundsException") hA (by decide)) (fun k σ1 qq => ?_) (by decide) (by decide) (by decide) (by decide) dL_law_1104 dL_law_1105 dL_law_1106 dL_law_1108 dL_law_1109 dL_law_1110 dL_law_1111 dL_law_1112 dL_law_1114 dL_law_1115 dL_law_1116 dL_law_1117 dL_law_1118 dL_law_1121 dL_law_1123 dL_law_1124 dL_law_1125 dL_law_1127 dL_law_1128 dL_law_1129 dL_law_1130 dL_law_1131 dL_law_1133 dL_law_1134 dL_law_1135 dL_law_1136 dL_law_1139 (fun k b σ2 hr => law_tail hA H hr dL_law_1141 dL_law_1142 dL_law_1145 dL_law_1147 dL_law_1152 dL_law_1154 dL_law_1157 dL_law_1158 dL_law_1159 dL_law_1160 dL_law_1162 dL_law_1163 dL_law_1164 dL_law_1169 (by decide) (kk σ2 hr.2.2.2))
  have e21 : σ1.1 21 0 = σ.1 5 0 := (congrFun (congrFun qq.a 21) 0).trans q.1
  have M := Tri.qs (t_X8_tires (D := D) (s0 := s0) (l := l) (σ := σ1) hA (P := (σ1.1 20 0 15, σ1.1 20 0 16)) (u := σ1.1 21 0) ((congrFun e21 1).trans h1) hn ((congrFun e21 2).trans h2) hc (fun c9 hc9 => by rw [e21]; exact (hW.tir (i := 0) (by omega) (by decide)).1) (fun c9 h9 hc9 hh9 => by rw [e21]; obtain ⟨-, e, g1, g2, g3⟩ := hW.tir (c := c9) (i := h9) (by omega) hh9; rw [g3]; exact pos_nI g1 g2) (x := (xs (i + 1))) (y := (xs (i + 2))))
  rw [e21] at M
  exact M.weaken (fun r G' z => ⟨_, _, z.1, z.2, qst_r iv9 qq (by omega)⟩) (fun _ _ z => z)

set_option maxHeartbeats 2000000 in
theorem lc_canCarry {D : va_G} {s0 : State} {mn : String} {nL : Nat} {ret : Option FieldType} {hh : List (Nat × Nat × Nat × Nat)} {l : Launch} {R : Room} {Z : ZT} {A : AT} {b0 L i : Nat} {xs : Nat → Int32} {cells slots m : Nat} {σ : Sg} (hl : l.stackTraces = false) (hA : AOK s0.heap.size A) (H : LH s0 R nL b0 L i xs cells slots) (hm9 : m ≤ 600) (iv : IV A m σ) (kk : ∀ σ2 : Sg, IV A (m + 1) σ2 → V D s0 RL mn cL_law nL ret hh l R Z 2081 (LO A b0 i) [] (HP A σ2) (cells + 24) (slots + 816)) : V D s0 RL mn cL_law nL ret hh l R Z 1172 (LO A b0 i) [] (HP A σ) cells slots := by
  have iv9 := iv
  obtain ⟨nx, w, cn, h, sf, sv, rr, tl, tx, ft, T, c, q, mi, sb⟩ := iv
  have ew := c.1
  subst ew
  have hW := mi.1.wok
  have bo := mi.1.bo
  obtain ⟨hb, nh, nc, pl, ⟨h1, hn⟩, ⟨h2, hc⟩, ⟨h3, hp⟩, hd⟩ := mi.1
  obtain ⟨hnx, hx9, hcn, hc8⟩ := c.2.1
  have hK : (K_canCarry (σ.1 5 0) nh nc (xs (i + 1)) (xs (i + 2))).1 ≤ 1 := by
    unfold K_canCarry
    repeat' split
    all_goals exact Nat.le_of_ble_eq_true rfl
  refine law_c2 (p := 1172) (e2 := 3) (RR := fun k b σ2 => RDY A (m + 1) σ2 k b) hA H csh_L_182 cv_L_184 rfl (t_L_canCarry hA (d := 10) (t_X7_canCarry hA hl h1 hn h2 hc (x := (xs (i + 1))) (y := (xs (i + 2)))) (fun r G' z => ⟨σ, _, z.2.1, z.2.2⟩) (fun E G' z => ⟨ifE1 z.1 hK z.2.1, σ, z.2.2⟩) (by decide)) (qst1 (K := K_canCarry (σ.1 5 0) nh nc (xs (i + 1)) (xs (i + 2))) (E := "java/lang/IndexOutOfBoundsException") hA (by decide)) (fun k σ1 qq => ?_) (by decide) (by decide) (by decide) (by decide) dL_law_1172 dL_law_1173 dL_law_1174 dL_law_1176 dL_law_1177 dL_law_1178 dL_law_1179 dL_law_1180 dL_law_1182 dL_law_1183 dL_law_1184 dL_law_1185 dL_law_1186 dL_law_1189 dL_law_1191 dL_law_1192 dL_law_1193 dL_law_1195 dL_law_1196 dL_law_1197 dL_law_1198 dL_law_1199 dL_law_1201 dL_law_1202 dL_law_1203 dL_law_1204 dL_law_1207 (fun k b σ2 hr => law_tail hA H hr dL_law_1209 dL_law_1210 dL_law_1213 dL_law_1215 dL_law_1220 dL_law_1222 dL_law_1225 dL_law_1226 dL_law_1227 dL_law_1228 dL_law_1230 dL_law_1231 dL_law_1232 dL_law_1237 (by decide) (kk σ2 hr.2.2.2))
  have e21 : σ1.1 21 0 = σ.1 5 0 := (congrFun (congrFun qq.a 21) 0).trans q.1
  have M := Tri.qs (t_X8_canCarry (D := D) (s0 := s0) (l := l) (σ := σ1) hA (P := (σ1.1 20 0 15, σ1.1 20 0 16)) (u := σ1.1 21 0) ((congrFun e21 1).trans h1) hn ((congrFun e21 2).trans h2) hc (fun c9 hc9 => by rw [e21]; exact (hW.tir (i := 0) (by omega) (by decide)).1) (fun c9 h9 hc9 hh9 => by rw [e21]; obtain ⟨-, e, g1, g2, g3⟩ := hW.tir (c := c9) (i := h9) (by omega) hh9; rw [g3]; exact pos_nI g1 g2) (x := (xs (i + 1))) (y := (xs (i + 2))))
  rw [e21] at M
  exact M.weaken (fun r G' z => ⟨_, _, z.1, z.2, qst_r iv9 qq (by omega)⟩) (fun _ _ z => z)

set_option maxHeartbeats 2000000 in
theorem lc_mayCarry {D : va_G} {s0 : State} {mn : String} {nL : Nat} {ret : Option FieldType} {hh : List (Nat × Nat × Nat × Nat)} {l : Launch} {R : Room} {Z : ZT} {A : AT} {b0 L i : Nat} {xs : Nat → Int32} {cells slots m : Nat} {σ : Sg} (hl : l.stackTraces = false) (hA : AOK s0.heap.size A) (H : LH s0 R nL b0 L i xs cells slots) (hm9 : m ≤ 600) (iv : IV A m σ) (kk : ∀ σ2 : Sg, IV A (m + 1) σ2 → V D s0 RL mn cL_law nL ret hh l R Z 2081 (LO A b0 i) [] (HP A σ2) (cells + 24) (slots + 816)) : V D s0 RL mn cL_law nL ret hh l R Z 1240 (LO A b0 i) [] (HP A σ) cells slots := by
  have iv9 := iv
  obtain ⟨nx, w, cn, h, sf, sv, rr, tl, tx, ft, T, c, q, mi, sb⟩ := iv
  have ew := c.1
  subst ew
  have hW := mi.1.wok
  have bo := mi.1.bo
  obtain ⟨hb, nh, nc, pl, ⟨h1, hn⟩, ⟨h2, hc⟩, ⟨h3, hp⟩, hd⟩ := mi.1
  obtain ⟨hnx, hx9, hcn, hc8⟩ := c.2.1
  have hK : (K_mayCarry (σ.1 5 0) nc pl (xs (i + 1))).1 ≤ 1 := by
    unfold K_mayCarry
    repeat' split
    all_goals exact Nat.le_of_ble_eq_true rfl
  refine law_c1 (p := 1240) (e2 := 3) (RR := fun k b σ2 => RDY A (m + 1) σ2 k b) hA H csh_L_185 cv_L_187 rfl (t_L_mayCarry hA (d := 10) (t_X7_mayCarry hA hl h1 hn h2 hc h3 hp (x := (xs (i + 1)))) (fun r G' z => ⟨σ, _, z.2.1, z.2.2⟩) (fun E G' z => ⟨ifE1 z.1 hK z.2.1, σ, z.2.2⟩) (by decide)) (qst1 (K := K_mayCarry (σ.1 5 0) nc pl (xs (i + 1))) (E := "java/lang/IndexOutOfBoundsException") hA (by decide)) (fun k σ1 qq => ?_) (by decide) (by decide) (by decide) (by decide) dL_law_1240 dL_law_1241 dL_law_1242 dL_law_1244 dL_law_1245 dL_law_1246 dL_law_1247 dL_law_1248 dL_law_1251 dL_law_1253 dL_law_1254 dL_law_1255 dL_law_1257 dL_law_1258 dL_law_1259 dL_law_1260 dL_law_1263 (fun k b σ2 hr => law_tail hA H hr dL_law_1265 dL_law_1266 dL_law_1269 dL_law_1271 dL_law_1276 dL_law_1278 dL_law_1281 dL_law_1282 dL_law_1283 dL_law_1284 dL_law_1286 dL_law_1287 dL_law_1288 dL_law_1293 (by decide) (kk σ2 hr.2.2.2))
  have e21 : σ1.1 21 0 = σ.1 5 0 := (congrFun (congrFun qq.a 21) 0).trans q.1
  have M := Tri.qs (t_X8_mayCarry (D := D) (s0 := s0) (l := l) (σ := σ1) hA (P := (σ1.1 20 0 15, σ1.1 20 0 16)) (u := σ1.1 21 0) ((congrFun e21 2).trans h2) hc ((congrFun e21 3).trans h3) (by omega) (fun c9 hc9 => by rw [e21]; exact (hW.tir (i := 0) (by omega) (by decide)).1) (fun c9 h9 hc9 hh9 => by rw [e21]; obtain ⟨-, e, g1, g2, g3⟩ := hW.tir (c := c9) (i := h9) (by omega) hh9; rw [g3]; exact pos_nI g1 g2) (fun h9 hh9 => by rw [e21]; exact hW.dog hh9) (fun h9 hh9 => by rw [e21]; exact hW.bon hh9) (x := (xs (i + 1))))
  rw [e21] at M
  rw [KR_may_K] at M
  exact M.weaken (fun r G' z => ⟨_, _, z.1, z.2, qst_r iv9 qq (by omega)⟩) (fun _ _ z => z)

set_option maxHeartbeats 2000000 in
theorem lc_bestCarrier {D : va_G} {s0 : State} {mn : String} {nL : Nat} {ret : Option FieldType} {hh : List (Nat × Nat × Nat × Nat)} {l : Launch} {R : Room} {Z : ZT} {A : AT} {b0 L i : Nat} {xs : Nat → Int32} {cells slots m : Nat} {σ : Sg} (hl : l.stackTraces = false) (hA : AOK s0.heap.size A) (H : LH s0 R nL b0 L i xs cells slots) (hm9 : m ≤ 600) (iv : IV A m σ) (kk : ∀ σ2 : Sg, IV A (m + 1) σ2 → V D s0 RL mn cL_law nL ret hh l R Z 2081 (LO A b0 i) [] (HP A σ2) (cells + 24) (slots + 816)) : V D s0 RL mn cL_law nL ret hh l R Z 1296 (LO A b0 i) [] (HP A σ) cells slots := by
  have iv9 := iv
  obtain ⟨nx, w, cn, h, sf, sv, rr, tl, tx, ft, T, c, q, mi, sb⟩ := iv
  have ew := c.1
  subst ew
  have hW := mi.1.wok
  have bo := mi.1.bo
  obtain ⟨hb, nh, nc, pl, ⟨h1, hn⟩, ⟨h2, hc⟩, ⟨h3, hp⟩, hd⟩ := mi.1
  obtain ⟨hnx, hx9, hcn, hc8⟩ := c.2.1
  have hK : (K_best (σ.1 5 0) nh nc (xs (i + 1))).1 ≤ 2 := by
    unfold K_best
    repeat' split
    all_goals exact Nat.le_of_ble_eq_true rfl
  refine law_c1 (p := 1296) (e2 := 3) (RR := fun k b σ2 => RDY A (m + 1) σ2 k b) hA H csh_L_188 cv_L_190 rfl (t_L_bestCarrier hA (d := 10) (t_X7_bestCarrier hA hl h1 hn h2 hc (x := (xs (i + 1)))) (fun r G' z => ⟨σ, _, z.2.1, z.2.2⟩) (fun E G' z => ⟨ifE z.2.1, σ, z.2.2⟩) (by decide)) (qst2 (K := K_best (σ.1 5 0) nh nc (xs (i + 1))) (E := "java/lang/IndexOutOfBoundsException") (F := "java/util/NoSuchElementException") hA (by decide) hK) (fun k σ1 qq => ?_) (by decide) (by decide) (by decide) (by decide) dL_law_1296 dL_law_1297 dL_law_1298 dL_law_1300 dL_law_1301 dL_law_1302 dL_law_1303 dL_law_1304 dL_law_1307 dL_law_1309 dL_law_1310 dL_law_1311 dL_law_1313 dL_law_1314 dL_law_1315 dL_law_1316 dL_law_1319 (fun k b σ2 hr => law_tail hA H hr dL_law_1321 dL_law_1322 dL_law_1325 dL_law_1327 dL_law_1332 dL_law_1334 dL_law_1337 dL_law_1338 dL_law_1339 dL_law_1340 dL_law_1342 dL_law_1343 dL_law_1344 dL_law_1349 (by decide) (kk σ2 hr.2.2.2))
  have e21 : σ1.1 21 0 = σ.1 5 0 := (congrFun (congrFun qq.a 21) 0).trans q.1
  have M := Tri.qs (t_X8_bestCarrier (D := D) (s0 := s0) (l := l) (σ := σ1) hA (P := (σ1.1 20 0 15, σ1.1 20 0 16)) (u := σ1.1 21 0) ((congrFun e21 1).trans h1) hn ((congrFun e21 2).trans h2) hc (fun c9 hc9 => by rw [e21]; exact (hW.tir (i := 0) (by omega) (by decide)).1) (fun c9 h9 hc9 hh9 => by rw [e21]; obtain ⟨-, e, g1, g2, g3⟩ := hW.tir (c := c9) (i := h9) (by omega) hh9; rw [g3]; exact pos_nI g1 g2) (fun c9 h9 hc9 hh9 => by rw [e21]; exact hW.can (by omega) hh9) (x := (xs (i + 1))))
  rw [e21] at M
  exact M.weaken (fun r G' z => ⟨_, _, z.1, z.2, qst_r iv9 qq (by omega)⟩) (fun _ _ z => z)

set_option maxHeartbeats 2000000 in
theorem lc_ranked {D : va_G} {s0 : State} {mn : String} {nL : Nat} {ret : Option FieldType} {hh : List (Nat × Nat × Nat × Nat)} {l : Launch} {R : Room} {Z : ZT} {A : AT} {b0 L i : Nat} {xs : Nat → Int32} {cells slots m : Nat} {σ : Sg} (hl : l.stackTraces = false) (hA : AOK s0.heap.size A) (H : LH s0 R nL b0 L i xs cells slots) (hm9 : m ≤ 600) (iv : IV A m σ) (kk : ∀ σ2 : Sg, IV A (m + 1) σ2 → V D s0 RL mn cL_law nL ret hh l R Z 2081 (LO A b0 i) [] (HP A σ2) (cells + 24) (slots + 816)) : V D s0 RL mn cL_law nL ret hh l R Z 1428 (LO A b0 i) [] (HP A σ) cells slots := by
  have iv9 := iv
  obtain ⟨nx, w, cn, h, sf, sv, rr, tl, tx, ft, T, c, q, mi, sb⟩ := iv
  have ew := c.1
  subst ew
  have hW := mi.1.wok
  have bo := mi.1.bo
  obtain ⟨hb, nh, nc, pl, ⟨h1, hn⟩, ⟨h2, hc⟩, ⟨h3, hp⟩, hd⟩ := mi.1
  obtain ⟨hnx, hx9, hcn, hc8⟩ := c.2.1
  have hK : (K_ranked (σ.1 5 0) nh (xs (i + 1))).1 ≤ 1 := by
    unfold K_ranked
    repeat' split
    all_goals exact Nat.le_of_ble_eq_true rfl
  refine law_c1 (p := 1428) (e2 := 2) (RR := fun k b σ2 => RDY A (m + 1) σ2 k b) hA H csh_L_198 cv_L_200 rfl (t_L_ranked hA (d := 10) (t_X7_ranked hA hl h1 hn (x := (xs (i + 1)))) (fun r G' z => ⟨σ, _, z.2.1, z.2.2⟩) (fun E G' z => ⟨ifE1 z.1 hK z.2.1, σ, z.2.2⟩) (by decide)) (qst1 (K := K_ranked (σ.1 5 0) nh (xs (i + 1))) (E := "java/util/NoSuchElementException") hA (by decide)) (fun k σ1 qq => ?_) (by decide) (by decide) (by decide) (by decide) dL_law_1428 dL_law_1429 dL_law_1430 dL_law_1432 dL_law_1433 dL_law_1434 dL_law_1435 dL_law_1436 dL_law_1439 dL_law_1441 dL_law_1442 dL_law_1443 dL_law_1445 dL_law_1446 dL_law_1447 dL_law_1448 dL_law_1451 (fun k b σ2 hr => law_tail hA H hr dL_law_1453 dL_law_1454 dL_law_1457 dL_law_1459 dL_law_1464 dL_law_1466 dL_law_1469 dL_law_1470 dL_law_1471 dL_law_1472 dL_law_1474 dL_law_1475 dL_law_1476 dL_law_1481 (by decide) (kk σ2 hr.2.2.2))
  have e21 : σ1.1 21 0 = σ.1 5 0 := (congrFun (congrFun qq.a 21) 0).trans q.1
  have M := Tri.qs (t_X8_ranked (D := D) (s0 := s0) (l := l) (σ := σ1) hA (P := (σ1.1 20 0 15, σ1.1 20 0 16)) (u := σ1.1 21 0) ((congrFun e21 1).trans h1) hn (fun h9 hh9 => by rw [e21]; obtain ⟨x4, y4, z4⟩ := hb.h (i := h9) (f := 4) (by omega) (by decide) rfl; obtain ⟨x3, y3, z3⟩ := hb.h (i := h9) (f := 3) (by omega) (by decide) rfl; exact ⟨⟨x4, by omega, z4⟩, x3, by omega, z3⟩) (x := (xs (i + 1))))
  rw [e21] at M
  rw [KR_ranked_K hn] at M
  exact M.weaken (fun r G' z => ⟨_, _, z.1, z.2, qst_r iv9 qq (by omega)⟩) (fun _ _ z => z)

set_option maxHeartbeats 2000000 in
theorem lc_reason {D : va_G} {s0 : State} {mn : String} {nL : Nat} {ret : Option FieldType} {hh : List (Nat × Nat × Nat × Nat)} {l : Launch} {R : Room} {Z : ZT} {A : AT} {b0 L i : Nat} {xs : Nat → Int32} {cells slots m : Nat} {σ : Sg} (hl : l.stackTraces = false) (hA : AOK s0.heap.size A) (H : LH s0 R nL b0 L i xs cells slots) (hm9 : m ≤ 600) (iv : IV A m σ) (kk : ∀ σ2 : Sg, IV A (m + 1) σ2 → V D s0 RL mn cL_law nL ret hh l R Z 2081 (LO A b0 i) [] (HP A σ2) (cells + 24) (slots + 816)) : V D s0 RL mn cL_law nL ret hh l R Z 1625 (LO A b0 i) [] (HP A σ) cells slots := by
  have iv9 := iv
  obtain ⟨nx, w, cn, h, sf, sv, rr, tl, tx, ft, T, c, q, mi, sb⟩ := iv
  have ew := c.1
  subst ew
  have hW := mi.1.wok
  have bo := mi.1.bo
  obtain ⟨hb, nh, nc, pl, ⟨h1, hn⟩, ⟨h2, hc⟩, ⟨h3, hp⟩, hd⟩ := mi.1
  obtain ⟨hnx, hx9, hcn, hc8⟩ := c.2.1
  have hK : (K_reason (σ.1 2 0 0) (σ.1 2 0 1) (σ.1 2 0 2) (xs (i + 1))).1 ≤ 2 := by
    unfold K_reason
    repeat' split
    all_goals exact Nat.le_of_ble_eq_true rfl
  refine law_c1 (p := 1625) (e2 := 1) (RR := fun k b σ2 => RDY A (m + 1) σ2 k b) hA H csh_L_220 cv_L_222 rfl (t_L_reason hA (d := 10) (t_X7_reason hA hl  (x := (xs (i + 1)))) (fun r G' z => ⟨σ, _, z.2.1, z.2.2⟩) (fun E G' z => ⟨ifE z.2.1, σ, z.2.2⟩) (by decide)) (qst2 (K := K_reason (σ.1 2 0 0) (σ.1 2 0 1) (σ.1 2 0 2) (xs (i + 1))) (E := "java/lang/IllegalArgumentException") (F := "java/util/NoSuchElementException") hA (by decide) hK) (fun k σ1 qq => ?_) (by decide) (by decide) (by decide) (by decide) dL_law_1625 dL_law_1626 dL_law_1627 dL_law_1629 dL_law_1630 dL_law_1631 dL_law_1632 dL_law_1633 dL_law_1636 dL_law_1638 dL_law_1639 dL_law_1640 dL_law_1642 dL_law_1643 dL_law_1644 dL_law_1645 dL_law_1648 (fun k b σ2 hr => law_tail hA H hr dL_law_1650 dL_law_1651 dL_law_1654 dL_law_1656 dL_law_1661 dL_law_1663 dL_law_1666 dL_law_1667 dL_law_1668 dL_law_1669 dL_law_1671 dL_law_1672 dL_law_1673 dL_law_1678 (by decide) (kk σ2 hr.2.2.2))
  have e21 : σ1.1 21 0 = σ.1 5 0 := (congrFun (congrFun qq.a 21) 0).trans q.1
  have M := t_X8_reason (D := D) (s0 := s0) (l := l) (σ := σ1) hA  (x := (xs (i + 1)))
  rw [congrFun (congrFun (congrFun qq.a 20) 0) 7, congrFun (congrFun (congrFun qq.a 20) 0) 8, congrFun (congrFun (congrFun qq.a 20) 0) 9, q.2.2.2.2.1.1.trans c.2.2.2.2.2.1.1.symm, q.2.2.2.2.1.2.1.trans c.2.2.2.2.2.1.2.1.symm, q.2.2.2.2.1.2.2.trans c.2.2.2.2.2.1.2.2.symm] at M
  exact M.weaken (fun r G' z => ⟨_, _, z.1, z.2, qst_r iv9 qq (by omega)⟩) (fun _ _ z => z)

set_option maxHeartbeats 2000000 in
theorem lc_account {D : va_G} {s0 : State} {mn : String} {nL : Nat} {ret : Option FieldType} {hh : List (Nat × Nat × Nat × Nat)} {l : Launch} {R : Room} {Z : ZT} {A : AT} {b0 L i : Nat} {xs : Nat → Int32} {cells slots m : Nat} {σ : Sg} (hl : l.stackTraces = false) (hA : AOK s0.heap.size A) (H : LH s0 R nL b0 L i xs cells slots) (hm9 : m ≤ 600) (iv : IV A m σ) (kk : ∀ σ2 : Sg, IV A (m + 1) σ2 → V D s0 RL mn cL_law nL ret hh l R Z 2081 (LO A b0 i) [] (HP A σ2) (cells + 24) (slots + 816)) : V D s0 RL mn cL_law nL ret hh l R Z 1924 (LO A b0 i) [] (HP A σ) cells slots := by
  have iv9 := iv
  obtain ⟨nx, w, cn, h, sf, sv, rr, tl, tx, ft, T, c, q, mi, sb⟩ := iv
  have ew := c.1
  subst ew
  have hW := mi.1.wok
  have bo := mi.1.bo
  obtain ⟨hb, nh, nc, pl, ⟨h1, hn⟩, ⟨h2, hc⟩, ⟨h3, hp⟩, hd⟩ := mi.1
  obtain ⟨hnx, hx9, hcn, hc8⟩ := c.2.1
  have hK : (K_account (σ.1 5 0) nh (σ.1 3 0 1) (σ.1 11 0 0) (xs (i + 1))).1 ≤ 1 := by
    unfold K_account
    repeat' split
    all_goals exact Nat.le_of_ble_eq_true rfl
  refine law_c1 (p := 1924) (e2 := 2) (RR := fun k b σ2 => RDY A (m + 1) σ2 k b) hA H csh_L_236 cv_L_238 rfl (t_L_account hA (d := 10) (t_X7_account hA hl h1 hn (x := (xs (i + 1)))) (fun r G' z => ⟨σ, _, z.2.1, z.2.2⟩) (fun E G' z => ⟨ifE1 z.1 hK z.2.1, σ, z.2.2⟩) (by decide)) (qst1 (K := K_account (σ.1 5 0) nh (σ.1 3 0 1) (σ.1 11 0 0) (xs (i + 1))) (E := "java/lang/IllegalArgumentException") hA (by decide)) (fun k σ1 qq => ?_) (by decide) (by decide) (by decide) (by decide) dL_law_1924 dL_law_1925 dL_law_1926 dL_law_1928 dL_law_1929 dL_law_1930 dL_law_1931 dL_law_1932 dL_law_1935 dL_law_1937 dL_law_1938 dL_law_1939 dL_law_1941 dL_law_1942 dL_law_1943 dL_law_1944 dL_law_1947 (fun k b σ2 hr => law_tail hA H hr dL_law_1949 dL_law_1950 dL_law_1953 dL_law_1955 dL_law_1960 dL_law_1962 dL_law_1965 dL_law_1966 dL_law_1967 dL_law_1968 dL_law_1970 dL_law_1971 dL_law_1972 dL_law_1977 (by decide) (kk σ2 hr.2.2.2))
  have e21 : σ1.1 21 0 = σ.1 5 0 := (congrFun (congrFun qq.a 21) 0).trans q.1
  have M := Tri.qs (t_X8_account (D := D) (s0 := s0) (l := l) (σ := σ1) hA (P := (σ1.1 20 0 15, σ1.1 20 0 16)) (u := σ1.1 21 0) ((congrFun e21 1).trans h1) hn (x := (xs (i + 1))))
  rw [e21] at M
  rw [congrFun (congrFun (congrFun qq.a 20) 0) 5, congrFun (congrFun (congrFun qq.a 20) 0) 11, q.2.2.1.1.trans hcn.symm, q.2.2.2.2.2.1.1.trans c.2.2.2.2.2.2.1.1.symm] at M
  exact M.weaken (fun r G' z => ⟨_, _, z.1, z.2, qst_r iv9 qq (by omega)⟩) (fun _ _ z => z)

set_option maxHeartbeats 2000000 in
theorem lc_reach {D : va_G} {s0 : State} {mn : String} {nL : Nat} {ret : Option FieldType} {hh : List (Nat × Nat × Nat × Nat)} {l : Launch} {R : Room} {Z : ZT} {A : AT} {b0 L i : Nat} {xs : Nat → Int32} {cells slots m : Nat} {σ : Sg} (hl : l.stackTraces = false) (hA : AOK s0.heap.size A) (H : LH s0 R nL b0 L i xs cells slots) (hm9 : m ≤ 600) (iv : IV A m σ) (kk : ∀ σ2 : Sg, IV A (m + 1) σ2 → V D s0 RL mn cL_law nL ret hh l R Z 2081 (LO A b0 i) [] (HP A σ2) (cells + 24) (slots + 816)) : V D s0 RL mn cL_law nL ret hh l R Z 1352 (LO A b0 i) [] (HP A σ) cells slots := by
  have iv9 := iv
  obtain ⟨nx, w, cn, h, sf, sv, rr, tl, tx, ft, T, c, q, mi, sb⟩ := iv
  have ew := c.1
  subst ew
  have hW := mi.1.wok
  have bo := mi.1.bo
  obtain ⟨hb, nh, nc, pl, ⟨h1, hn⟩, ⟨h2, hc⟩, ⟨h3, hp⟩, hd⟩ := mi.1
  obtain ⟨hnx, hx9, hcn, hc8⟩ := c.2.1
  have M2 := Tri.qs (t_X8_reach (D := D) (s0 := s0) (l := l) (σ := σ) hA (P := (σ.1 20 0 15, σ.1 20 0 16)) (u := σ.1 21 0))
  rw [q.1, R_reach_S hW] at M2
  exact law_q (p := 1352) hA H cv_L_191 cv_L_194 rfl rfl (t_X7_reach hA) M2 (by decide) (by decide) dL_law_1352 dL_law_1353 dL_law_1356 dL_law_1357 dL_law_1360 (by decide) (kk _ iv9.t)

set_option maxHeartbeats 2000000 in
theorem lc_carried {D : va_G} {s0 : State} {mn : String} {nL : Nat} {ret : Option FieldType} {hh : List (Nat × Nat × Nat × Nat)} {l : Launch} {R : Room} {Z : ZT} {A : AT} {b0 L i : Nat} {xs : Nat → Int32} {cells slots m : Nat} {σ : Sg} (hl : l.stackTraces = false) (hA : AOK s0.heap.size A) (H : LH s0 R nL b0 L i xs cells slots) (hm9 : m ≤ 600) (iv : IV A m σ) (kk : ∀ σ2 : Sg, IV A (m + 1) σ2 → V D s0 RL mn cL_law nL ret hh l R Z 2081 (LO A b0 i) [] (HP A σ2) (cells + 24) (slots + 816)) : V D s0 RL mn cL_law nL ret hh l R Z 1484 (LO A b0 i) [] (HP A σ) cells slots := by
  have iv9 := iv
  obtain ⟨nx, w, cn, h, sf, sv, rr, tl, tx, ft, T, c, q, mi, sb⟩ := iv
  have ew := c.1
  subst ew
  have hW := mi.1.wok
  have bo := mi.1.bo
  obtain ⟨hb, nh, nc, pl, ⟨h1, hn⟩, ⟨h2, hc⟩, ⟨h3, hp⟩, hd⟩ := mi.1
  obtain ⟨hnx, hx9, hcn, hc8⟩ := c.2.1
  have M2 := Tri.qs (t_X8_carried (D := D) (s0 := s0) (l := l) (σ := σ) hA (P := (σ.1 20 0 15, σ.1 20 0 16)) (u := σ.1 21 0) ((congrFun q.1 2).trans h2) hc)
  rw [q.1] at M2
  exact law_q (p := 1484) hA H cv_L_201 cv_L_204 rfl rfl (t_X7_carried hA h2 hc) M2 (by decide) (by decide) dL_law_1484 dL_law_1485 dL_law_1488 dL_law_1489 dL_law_1492 (by decide) (kk _ iv9.t)

set_option maxHeartbeats 2000000 in
theorem lc_carriedAgain {D : va_G} {s0 : State} {mn : String} {nL : Nat} {ret : Option FieldType} {hh : List (Nat × Nat × Nat × Nat)} {l : Launch} {R : Room} {Z : ZT} {A : AT} {b0 L i : Nat} {xs : Nat → Int32} {cells slots m : Nat} {σ : Sg} (hl : l.stackTraces = false) (hA : AOK s0.heap.size A) (H : LH s0 R nL b0 L i xs cells slots) (hm9 : m ≤ 600) (iv : IV A m σ) (kk : ∀ σ2 : Sg, IV A (m + 1) σ2 → V D s0 RL mn cL_law nL ret hh l R Z 2081 (LO A b0 i) [] (HP A σ2) (cells + 24) (slots + 816)) : V D s0 RL mn cL_law nL ret hh l R Z 1497 (LO A b0 i) [] (HP A σ) cells slots := by
  have iv9 := iv
  obtain ⟨nx, w, cn, h, sf, sv, rr, tl, tx, ft, T, c, q, mi, sb⟩ := iv
  have ew := c.1
  subst ew
  have hW := mi.1.wok
  have bo := mi.1.bo
  obtain ⟨hb, nh, nc, pl, ⟨h1, hn⟩, ⟨h2, hc⟩, ⟨h3, hp⟩, hd⟩ := mi.1
  obtain ⟨hnx, hx9, hcn, hc8⟩ := c.2.1
  have M2 := Tri.qs (t_X8_carriedAgain (D := D) (s0 := s0) (l := l) (σ := σ) hA (P := (σ.1 20 0 15, σ.1 20 0 16)) (u := σ.1 21 0) ((congrFun q.1 1).trans h1) hn)
  rw [q.1] at M2
  exact law_q (p := 1497) hA H cv_L_205 cv_L_208 rfl rfl (t_X7_carriedAgain hA h1 hn) M2 (by decide) (by decide) dL_law_1497 dL_law_1498 dL_law_1501 dL_law_1502 dL_law_1505 (by decide) (kk _ iv9.t)

set_option maxHeartbeats 2000000 in
theorem lc_faultPosition {D : va_G} {s0 : State} {mn : String} {nL : Nat} {ret : Option FieldType} {hh : List (Nat × Nat × Nat × Nat)} {l : Launch} {R : Room} {Z : ZT} {A : AT} {b0 L i : Nat} {xs : Nat → Int32} {cells slots m : Nat} {σ : Sg} (hl : l.stackTraces = false) (hA : AOK s0.heap.size A) (H : LH s0 R nL b0 L i xs cells slots) (hm9 : m ≤ 600) (iv : IV A m σ) (kk : ∀ σ2 : Sg, IV A (m + 1) σ2 → V D s0 RL mn cL_law nL ret hh l R Z 2081 (LO A b0 i) [] (HP A σ2) (cells + 24) (slots + 816)) : V D s0 RL mn cL_law nL ret hh l R Z 1612 (LO A b0 i) [] (HP A σ) cells slots := by
  have iv9 := iv
  obtain ⟨nx, w, cn, h, sf, sv, rr, tl, tx, ft, T, c, q, mi, sb⟩ := iv
  have ew := c.1
  subst ew
  have hW := mi.1.wok
  have bo := mi.1.bo
  obtain ⟨hb, nh, nc, pl, ⟨h1, hn⟩, ⟨h2, hc⟩, ⟨h3, hp⟩, hd⟩ := mi.1
  obtain ⟨hnx, hx9, hcn, hc8⟩ := c.2.1
  have M2 := t_X8_faultPosition (D := D) (s0 := s0) (l := l) (σ := σ) hA
  rw [q.2.2.2.2.2.2.1.trans c.2.2.2.2.2.2.2.symm] at M2
  exact law_q (p := 1612) hA H cv_L_216 cv_L_219 rfl rfl (t_X7_faultPosition hA) M2 (by decide) (by decide) dL_law_1612 dL_law_1613 dL_law_1616 dL_law_1617 dL_law_1620 (by decide) (kk _ iv9.t)

