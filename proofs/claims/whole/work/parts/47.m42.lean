def he : HD := (0, fun _ => (0, 0), fun _ _ => none)
def x0 : XS := ((0, fun _ => 0), (0, fun _ => 0), (0, fun _ => 0, fun _ => 0, fun _ => 0), (0, fun _ => 0, fun _ => 0, fun _ => 0), (0, fun _ => 0, fun _ => 0, fun _ => 0), (fun _ => none, fun _ => 0, fun _ _ => 0), 0)
def h01 : HD := hN he (7, 0)
def hq1 : HD := E0 (hN h01 (3, 0)) 1 2 8
def hq2 : HD := E0 (hN (uR hq1 0 0 1) (3, 0)) 5 6 6
def hq3 : HD := E2 (hN (uR hq2 0 1 5) (5, 0)) 9 10 20
def hq4 : HD := E2 (hN (uR hq3 0 2 9) (5, 0)) 13 14 8
def hq5 : HD := E2 (hN (uR hq4 0 3 13) (5, 0)) 17 18 8
def hq6 : HD := E1 (hN (uR (hN (uR hq5 0 4 17) (2, 4)) 0 5 21) (4, 0)) 22 23
def hq7 : HD := E1 (hN (uR hq6 21 0 22) (4, 0)) 24 25
def hq8 : HD := E1 (hN (uR hq7 21 1 24) (4, 0)) 26 27
def hq9 : HD := E1 (hN (uR hq8 21 2 26) (4, 0)) 28 29
def hq10 : HD := E3 (hN (uR hq9 21 3 28) (6, 0)) 30 31
def hq11 : HD := E3 (hN (uR hq10 0 6 30) (6, 0)) 36 37
def h42 : HD := (uR hq11 0 7 36)
set_option maxRecDepth 100000 in
set_option maxHeartbeats 4000000 in
theorem cX4 {G : GW} {σ : St} : Cn G { frames := 2, cells := 41, slots := 1280, locals := 43 } mX4_init (41, 1280) [rf G 0] h01 σ h42 (fun τ => CI x0 τ) := by
  refine C.of (L := [some (rf G 0), none]) (by decide) rfl (Nat.le_of_ble_eq_true rfl) ?_
  refine A.al0 eX4_init_0 ?_
  refine A.obj eX4_init_1 kobX4 ⟨Nat.le_of_ble_eq_true rfl, Nat.le_of_ble_eq_true rfl⟩ ?_
  refine A.al0 eX4_init_4 ?_
  refine A.newCa (ci := 0) (a := 1) (kv := (1, 7)) eX4_init_5 (by decide) qX4_9 in_X0 it_X0 df0 rfl rfl (Nat.le_of_ble_eq_true rfl) (Nat.le_of_ble_eq_true rfl) ?_
  refine A.dup eX4_init_8 rfl ?_
  refine A.iconst (v := nI 0) eX4_init_9 (by decide) ?_
  refine A.bipush (v := nI 8) eX4_init_10 (by decide) ?_
  refine A.cI (E := hq1) (As := [.int (nI 0), .int (nI 8)]) (kv := (4, 46)) eX4_init_12 oX0_init kX4_11 (cX0_8 (k := 1) (a := 2) (t := 0) ⟨Nat.le_of_ble_eq_true rfl, rfl⟩ rfl) rfl rfl rfl rfl rfl (Nat.le_of_ble_eq_true rfl) ⟨rfl, rfl, Nat.le_of_ble_eq_true rfl, Nat.le_of_ble_eq_true rfl, Nat.le_of_ble_eq_true rfl, Nat.le_of_ble_eq_true rfl⟩ ?_
  rintro s1 ⟨g1_0, g1_1, g1_2, g1_3, g1_4⟩
  have w1 : ∀ i, i < 1 → s1.1 i = σ.1 i := fun i y => (g1_0 i (by omega) (by omega)).trans (zs_n (by omega))
  refine A.putFR eX4_init_15 pX4_14 ⟨Nat.le_of_ble_eq_true rfl, rfl⟩ rfl rfl rfl rfl ?_
  refine A.al0 eX4_init_18 ?_
  refine A.newCa (ci := 0) (a := 5) (kv := (5, 53)) eX4_init_19 (by decide) qX4_9 in_X0 it_X0 df0 rfl rfl (Nat.le_of_ble_eq_true rfl) (Nat.le_of_ble_eq_true rfl) ?_
  refine A.dup eX4_init_22 rfl ?_
  refine A.iconst (v := nI 1) eX4_init_23 (by decide) ?_
  refine A.bipush (v := nI 6) eX4_init_24 (by decide) ?_
  refine A.cI (E := hq2) (As := [.int (nI 1), .int (nI 6)]) (kv := (8, 82)) eX4_init_26 oX0_init kX4_11 (cX0_6 (k := 5) (a := 6) (t := 1) ⟨Nat.le_of_ble_eq_true rfl, rfl⟩ rfl) rfl rfl rfl rfl rfl (Nat.le_of_ble_eq_true rfl) ⟨rfl, rfl, Nat.le_of_ble_eq_true rfl, Nat.le_of_ble_eq_true rfl, Nat.le_of_ble_eq_true rfl, Nat.le_of_ble_eq_true rfl⟩ ?_
  rintro s2 ⟨g2_0, g2_1, g2_2, g2_3, g2_4⟩
  have w2 : ∀ i, i < 5 → s2.1 i = s1.1 i := fun i y => (g2_0 i (by omega) (by omega)).trans (zs_n (by omega))
  refine A.putFR eX4_init_29 pX4_18 ⟨Nat.le_of_ble_eq_true rfl, rfl⟩ rfl rfl rfl rfl ?_
  refine A.al0 eX4_init_32 ?_
  refine A.newCa (ci := 2) (a := 9) (kv := (9, 86)) eX4_init_33 (by decide) qX4_21 in_X2 it_X2 df2 rfl rfl (Nat.le_of_ble_eq_true rfl) (Nat.le_of_ble_eq_true rfl) ?_
  refine A.dup eX4_init_36 rfl ?_
  refine A.bipush (v := nI 20) eX4_init_37 (by decide) ?_
  refine A.cI (E := hq3) (As := [.int (nI 20)]) (kv := (12, 146)) eX4_init_39 oX2_init kX4_23 (cX2_20 (k := 9) (a := 10) ⟨Nat.le_of_ble_eq_true rfl, rfl⟩ rfl) rfl rfl rfl rfl rfl (Nat.le_of_ble_eq_true rfl) ⟨rfl, rfl, Nat.le_of_ble_eq_true rfl, Nat.le_of_ble_eq_true rfl, Nat.le_of_ble_eq_true rfl, Nat.le_of_ble_eq_true rfl⟩ ?_
  rintro s3 ⟨g3_0, g3_1⟩
  have w3 : ∀ i, i < 9 → s3.1 i = s2.1 i := fun i y => (g3_0 i (by omega) (by omega)).trans (zs_n (by omega))
  refine A.putFR eX4_init_42 pX4_26 ⟨Nat.le_of_ble_eq_true rfl, rfl⟩ rfl rfl rfl rfl ?_
  refine A.al0 eX4_init_45 ?_
  refine A.newCa (ci := 2) (a := 13) (kv := (13, 150)) eX4_init_46 (by decide) qX4_21 in_X2 it_X2 df2 rfl rfl (Nat.le_of_ble_eq_true rfl) (Nat.le_of_ble_eq_true rfl) ?_
  refine A.dup eX4_init_49 rfl ?_
  refine A.bipush (v := nI 8) eX4_init_50 (by decide) ?_
  refine A.cI (E := hq4) (As := [.int (nI 8)]) (kv := (16, 174)) eX4_init_52 oX2_init kX4_23 (cX2_8 (k := 13) (a := 14) ⟨Nat.le_of_ble_eq_true rfl, rfl⟩ rfl) rfl rfl rfl rfl rfl (Nat.le_of_ble_eq_true rfl) ⟨rfl, rfl, Nat.le_of_ble_eq_true rfl, Nat.le_of_ble_eq_true rfl, Nat.le_of_ble_eq_true rfl, Nat.le_of_ble_eq_true rfl⟩ ?_
  rintro s4 ⟨g4_0, g4_1⟩
  have w4 : ∀ i, i < 13 → s4.1 i = s3.1 i := fun i y => (g4_0 i (by omega) (by omega)).trans (zs_n (by omega))
  refine A.putFR eX4_init_55 pX4_30 ⟨Nat.le_of_ble_eq_true rfl, rfl⟩ rfl rfl rfl rfl ?_
  refine A.al0 eX4_init_58 ?_
  refine A.newCa (ci := 2) (a := 17) (kv := (17, 178)) eX4_init_59 (by decide) qX4_21 in_X2 it_X2 df2 rfl rfl (Nat.le_of_ble_eq_true rfl) (Nat.le_of_ble_eq_true rfl) ?_
  refine A.dup eX4_init_62 rfl ?_
  refine A.bipush (v := nI 8) eX4_init_63 (by decide) ?_
  refine A.cI (E := hq5) (As := [.int (nI 8)]) (kv := (20, 202)) eX4_init_65 oX2_init kX4_23 (cX2_8 (k := 17) (a := 18) ⟨Nat.le_of_ble_eq_true rfl, rfl⟩ rfl) rfl rfl rfl rfl rfl (Nat.le_of_ble_eq_true rfl) ⟨rfl, rfl, Nat.le_of_ble_eq_true rfl, Nat.le_of_ble_eq_true rfl, Nat.le_of_ble_eq_true rfl, Nat.le_of_ble_eq_true rfl⟩ ?_
  rintro s5 ⟨g5_0, g5_1⟩
  have w5 : ∀ i, i < 17 → s5.1 i = s4.1 i := fun i y => (g5_0 i (by omega) (by omega)).trans (zs_n (by omega))
  refine A.putFR eX4_init_68 pX4_33 ⟨Nat.le_of_ble_eq_true rfl, rfl⟩ rfl rfl rfl rfl ?_
  refine A.al0 eX4_init_71 ?_
  refine A.iconst (v := nI 4) eX4_init_72 (by decide) ?_
  refine A.newQa (N := 4) (a := 21) (kv := (21, 206)) eX4_init_73 cl_q rfl rfl (Nat.le_of_ble_eq_true rfl) (Nat.le_of_ble_eq_true rfl) (Nat.le_of_ble_eq_true rfl) ?_
  refine A.putFR eX4_init_76 pX4_38 ⟨Nat.le_of_ble_eq_true rfl, rfl⟩ rfl rfl rfl rfl ?_
  refine A.iconst (v := nI 0) eX4_init_79 (by decide) ?_
  refine A.is1 eX4_init_80 ?_
  refine A.il1 eX4_init_81 ?_
  refine A.iconst (v := nI 4) eX4_init_82 (by decide) ?_
  refine A.icmp_geN eX4_init_83 (fun yc => absurd yc (by decide)) (fun _ => ?_)
  refine A.al0 eX4_init_86 ?_
  refine A.getR (r := 21) eX4_init_87 fX4_38 ⟨Nat.le_of_ble_eq_true rfl, rfl⟩ rfl ?_
  refine A.il1 eX4_init_90 ?_
  refine A.newCa (ci := 1) (a := 22) (kv := (22, 209)) eX4_init_91 (by decide) qX4_36 in_X1 it_X1 df1 rfl rfl (Nat.le_of_ble_eq_true rfl) (Nat.le_of_ble_eq_true rfl) ?_
  refine A.dup eX4_init_94 rfl ?_
  refine A.cI (E := hq6) (As := []) (kv := (23, 269)) eX4_init_95 oX1_init kX4_42 (cX1 (k := 22) (a := 23) ⟨Nat.le_of_ble_eq_true rfl, rfl⟩ rfl) rfl rfl rfl rfl rfl (Nat.le_of_ble_eq_true rfl) ⟨rfl, rfl, Nat.le_of_ble_eq_true rfl, Nat.le_of_ble_eq_true rfl, Nat.le_of_ble_eq_true rfl, Nat.le_of_ble_eq_true rfl⟩ ?_
  rintro s6 ⟨g6_0, g6_1⟩
  have w6 : ∀ i, i < 22 → s6.1 i = s5.1 i := fun i y => (g6_0 i (by omega) (by omega)).trans (zs_n (by omega))
  refine A.aast (j := 0) (n := 4) eX4_init_98 ⟨Nat.le_of_ble_eq_true rfl, rfl⟩ ⟨Nat.le_of_ble_eq_true rfl, rfl⟩ (by decide) (by decide) ?_
  refine A.inc1N eX4_init_99 ?_
  refine A.goto eX4_init_102 ?_
  refine A.il1 eX4_init_81 ?_
  refine A.iconst (v := nI 4) eX4_init_82 (by decide) ?_
  refine A.icmp_geN eX4_init_83 (fun yc => absurd yc (by decide)) (fun _ => ?_)
  refine A.al0 eX4_init_86 ?_
  refine A.getR (r := 21) eX4_init_87 fX4_38 ⟨Nat.le_of_ble_eq_true rfl, rfl⟩ rfl ?_
  refine A.il1 eX4_init_90 ?_
  refine A.newCa (ci := 1) (a := 24) (kv := (24, 272)) eX4_init_91 (by decide) qX4_36 in_X1 it_X1 df1 rfl rfl (Nat.le_of_ble_eq_true rfl) (Nat.le_of_ble_eq_true rfl) ?_
  refine A.dup eX4_init_94 rfl ?_
  refine A.cI (E := hq7) (As := []) (kv := (25, 332)) eX4_init_95 oX1_init kX4_42 (cX1 (k := 24) (a := 25) ⟨Nat.le_of_ble_eq_true rfl, rfl⟩ rfl) rfl rfl rfl rfl rfl (Nat.le_of_ble_eq_true rfl) ⟨rfl, rfl, Nat.le_of_ble_eq_true rfl, Nat.le_of_ble_eq_true rfl, Nat.le_of_ble_eq_true rfl, Nat.le_of_ble_eq_true rfl⟩ ?_
  rintro s7 ⟨g7_0, g7_1⟩
  have w7 : ∀ i, i < 24 → s7.1 i = s6.1 i := fun i y => (g7_0 i (by omega) (by omega)).trans (zs_n (by omega))
  refine A.aast (j := 1) (n := 4) eX4_init_98 ⟨Nat.le_of_ble_eq_true rfl, rfl⟩ ⟨Nat.le_of_ble_eq_true rfl, rfl⟩ (by decide) (by decide) ?_
  refine A.inc1N eX4_init_99 ?_
  refine A.goto eX4_init_102 ?_
  refine A.il1 eX4_init_81 ?_
  refine A.iconst (v := nI 4) eX4_init_82 (by decide) ?_
  refine A.icmp_geN eX4_init_83 (fun yc => absurd yc (by decide)) (fun _ => ?_)
  refine A.al0 eX4_init_86 ?_
  refine A.getR (r := 21) eX4_init_87 fX4_38 ⟨Nat.le_of_ble_eq_true rfl, rfl⟩ rfl ?_
  refine A.il1 eX4_init_90 ?_
  refine A.newCa (ci := 1) (a := 26) (kv := (26, 335)) eX4_init_91 (by decide) qX4_36 in_X1 it_X1 df1 rfl rfl (Nat.le_of_ble_eq_true rfl) (Nat.le_of_ble_eq_true rfl) ?_
  refine A.dup eX4_init_94 rfl ?_
  refine A.cI (E := hq8) (As := []) (kv := (27, 395)) eX4_init_95 oX1_init kX4_42 (cX1 (k := 26) (a := 27) ⟨Nat.le_of_ble_eq_true rfl, rfl⟩ rfl) rfl rfl rfl rfl rfl (Nat.le_of_ble_eq_true rfl) ⟨rfl, rfl, Nat.le_of_ble_eq_true rfl, Nat.le_of_ble_eq_true rfl, Nat.le_of_ble_eq_true rfl, Nat.le_of_ble_eq_true rfl⟩ ?_
  rintro s8 ⟨g8_0, g8_1⟩
  have w8 : ∀ i, i < 26 → s8.1 i = s7.1 i := fun i y => (g8_0 i (by omega) (by omega)).trans (zs_n (by omega))
  refine A.aast (j := 2) (n := 4) eX4_init_98 ⟨Nat.le_of_ble_eq_true rfl, rfl⟩ ⟨Nat.le_of_ble_eq_true rfl, rfl⟩ (by decide) (by decide) ?_
  refine A.inc1N eX4_init_99 ?_
  refine A.goto eX4_init_102 ?_
  refine A.il1 eX4_init_81 ?_
  refine A.iconst (v := nI 4) eX4_init_82 (by decide) ?_
  refine A.icmp_geN eX4_init_83 (fun yc => absurd yc (by decide)) (fun _ => ?_)
  refine A.al0 eX4_init_86 ?_
  refine A.getR (r := 21) eX4_init_87 fX4_38 ⟨Nat.le_of_ble_eq_true rfl, rfl⟩ rfl ?_
  refine A.il1 eX4_init_90 ?_
  refine A.newCa (ci := 1) (a := 28) (kv := (28, 398)) eX4_init_91 (by decide) qX4_36 in_X1 it_X1 df1 rfl rfl (Nat.le_of_ble_eq_true rfl) (Nat.le_of_ble_eq_true rfl) ?_
  refine A.dup eX4_init_94 rfl ?_
  refine A.cI (E := hq9) (As := []) (kv := (29, 458)) eX4_init_95 oX1_init kX4_42 (cX1 (k := 28) (a := 29) ⟨Nat.le_of_ble_eq_true rfl, rfl⟩ rfl) rfl rfl rfl rfl rfl (Nat.le_of_ble_eq_true rfl) ⟨rfl, rfl, Nat.le_of_ble_eq_true rfl, Nat.le_of_ble_eq_true rfl, Nat.le_of_ble_eq_true rfl, Nat.le_of_ble_eq_true rfl⟩ ?_
  rintro s9 ⟨g9_0, g9_1⟩
  have w9 : ∀ i, i < 28 → s9.1 i = s8.1 i := fun i y => (g9_0 i (by omega) (by omega)).trans (zs_n (by omega))
  refine A.aast (j := 3) (n := 4) eX4_init_98 ⟨Nat.le_of_ble_eq_true rfl, rfl⟩ ⟨Nat.le_of_ble_eq_true rfl, rfl⟩ (by decide) (by decide) ?_
  refine A.inc1N eX4_init_99 ?_
  refine A.goto eX4_init_102 ?_
  refine A.il1 eX4_init_81 ?_
  refine A.iconst (v := nI 4) eX4_init_82 (by decide) ?_
  refine A.icmp_geN eX4_init_83 (fun _ => ?_) (fun yc => absurd yc (by decide))
  refine A.al0 eX4_init_105 ?_
  refine A.newCa (ci := 3) (a := 30) (kv := (30, 467)) eX4_init_106 (by decide) qX4_43 in_X3 it_X3 df3 rfl rfl (Nat.le_of_ble_eq_true rfl) (Nat.le_of_ble_eq_true rfl) ?_
  refine A.dup eX4_init_109 rfl ?_
  refine A.al0 eX4_init_110 ?_
  refine A.getR (r := 1) eX4_init_111 fX4_14 ⟨Nat.le_of_ble_eq_true rfl, rfl⟩ rfl ?_
  refine A.al0 eX4_init_114 ?_
  refine A.getR (r := 5) eX4_init_115 fX4_18 ⟨Nat.le_of_ble_eq_true rfl, rfl⟩ rfl ?_
  refine A.al0 eX4_init_118 ?_
  refine A.getR (r := 9) eX4_init_119 fX4_26 ⟨Nat.le_of_ble_eq_true rfl, rfl⟩ rfl ?_
  refine A.cI (E := hq10) (As := [rf G 1, rf G 5, rf G 9]) (kv := (35, 869)) eX4_init_122 oX3_init kX4_45 (cX3 (k := 30) (a := 31) ⟨Nat.le_of_ble_eq_true rfl, rfl⟩ rfl) rfl rfl rfl rfl rfl (Nat.le_of_ble_eq_true rfl) ⟨rfl, rfl, Nat.le_of_ble_eq_true rfl, Nat.le_of_ble_eq_true rfl, Nat.le_of_ble_eq_true rfl, Nat.le_of_ble_eq_true rfl⟩ ?_
  rintro s10 g10_0
  have w10 : ∀ i, i < 30 → s10.1 i = s9.1 i := fun i y => (g10_0 i (by omega) (by omega)).trans (zs_n (by omega))
  refine A.putFR eX4_init_125 pX4_48 ⟨Nat.le_of_ble_eq_true rfl, rfl⟩ rfl rfl rfl rfl ?_
  refine A.al0 eX4_init_128 ?_
  refine A.newCa (ci := 3) (a := 36) (kv := (36, 878)) eX4_init_129 (by decide) qX4_43 in_X3 it_X3 df3 rfl rfl (Nat.le_of_ble_eq_true rfl) (Nat.le_of_ble_eq_true rfl) ?_
  refine A.dup eX4_init_132 rfl ?_
  refine A.al0 eX4_init_133 ?_
  refine A.getR (r := 1) eX4_init_134 fX4_14 ⟨Nat.le_of_ble_eq_true rfl, rfl⟩ rfl ?_
  refine A.al0 eX4_init_137 ?_
  refine A.getR (r := 5) eX4_init_138 fX4_18 ⟨Nat.le_of_ble_eq_true rfl, rfl⟩ rfl ?_
  refine A.al0 eX4_init_141 ?_
  refine A.getR (r := 9) eX4_init_142 fX4_26 ⟨Nat.le_of_ble_eq_true rfl, rfl⟩ rfl ?_
  refine A.cI (E := hq11) (As := [rf G 1, rf G 5, rf G 9]) (kv := (41, 1280)) eX4_init_145 oX3_init kX4_45 (cX3 (k := 36) (a := 37) ⟨Nat.le_of_ble_eq_true rfl, rfl⟩ rfl) rfl rfl rfl rfl rfl (Nat.le_of_ble_eq_true rfl) ⟨rfl, rfl, Nat.le_of_ble_eq_true rfl, Nat.le_of_ble_eq_true rfl, Nat.le_of_ble_eq_true rfl, Nat.le_of_ble_eq_true rfl⟩ ?_
  rintro s11 g11_0
  have w11 : ∀ i, i < 36 → s11.1 i = s10.1 i := fun i y => (g11_0 i (by omega) (by omega)).trans (zs_n (by omega))
  refine A.putFR eX4_init_148 pX4_52 ⟨Nat.le_of_ble_eq_true rfl, rfl⟩ rfl rfl rfl rfl ?_
  refine A.al0 eX4_init_151 ?_
  refine A.iconst (v := nI 0) eX4_init_152 (by decide) ?_
  refine A.putZ eX4_init_153 pX4_55 ⟨Nat.le_of_ble_eq_true rfl, rfl⟩ (by decide) ?_
  refine A.al0 eX4_init_156 ?_
  refine A.iconst (v := nI 0) eX4_init_157 (by decide) ?_
  refine A.putI eX4_init_158 pX4_59 ⟨Nat.le_of_ble_eq_true rfl, rfl⟩ ?_
  have wz : ∀ i, i ≠ 0 → (ur (ur s11 0 (upd (s11.1 0) 8 (nI 0))) 0 (upd ((ur s11 0 (upd (s11.1 0) 8 (nI 0))).1 0) 9 (nI 0))).1 i = s11.1 i := fun i y => (ur_n y).trans (ur_n y)
  have r1 : s11.1 1 = s1.1 1 := by rw [w11 1 (by decide), w10 1 (by decide), w9 1 (by decide), w8 1 (by decide), w7 1 (by decide), w6 1 (by decide), w5 1 (by decide), w4 1 (by decide), w3 1 (by decide), w2 1 (by decide)]
  have r5 : s11.1 5 = s2.1 5 := by rw [w11 5 (by decide), w10 5 (by decide), w9 5 (by decide), w8 5 (by decide), w7 5 (by decide), w6 5 (by decide), w5 5 (by decide), w4 5 (by decide), w3 5 (by decide)]
  have r9 : s11.1 9 = s3.1 9 := by rw [w11 9 (by decide), w10 9 (by decide), w9 9 (by decide), w8 9 (by decide), w7 9 (by decide), w6 9 (by decide), w5 9 (by decide), w4 9 (by decide)]
  have r13 : s11.1 13 = s4.1 13 := by rw [w11 13 (by decide), w10 13 (by decide), w9 13 (by decide), w8 13 (by decide), w7 13 (by decide), w6 13 (by decide), w5 13 (by decide)]
  have r17 : s11.1 17 = s5.1 17 := by rw [w11 17 (by decide), w10 17 (by decide), w9 17 (by decide), w8 17 (by decide), w7 17 (by decide), w6 17 (by decide)]
  have r22 : s11.1 22 = s6.1 22 := by rw [w11 22 (by decide), w10 22 (by decide), w9 22 (by decide), w8 22 (by decide), w7 22 (by decide)]
  have r24 : s11.1 24 = s7.1 24 := by rw [w11 24 (by decide), w10 24 (by decide), w9 24 (by decide), w8 24 (by decide)]
  have r26 : s11.1 26 = s8.1 26 := by rw [w11 26 (by decide), w10 26 (by decide), w9 26 (by decide)]
  have r28 : s11.1 28 = s9.1 28 := by rw [w11 28 (by decide), w10 28 (by decide)]
  refine A.vret eX4_init_161 rfl rfl ⟨rfl, rfl, ?_⟩
  refine ⟨⟨?_, ?_, by decide, fun i hi => absurd hi (Nat.not_lt_zero i)⟩, ⟨?_, ?_, fun i hi => absurd hi (Nat.not_lt_zero i)⟩, ⟨?_, ?_, by decide, fun i hi => absurd hi (Nat.not_lt_zero i)⟩, ⟨?_, ?_, fun i hi => absurd hi (Nat.not_lt_zero i)⟩, ⟨?_, by decide, fun i hi => absurd hi (Nat.not_lt_zero i)⟩, ⟨?_, by decide, fun i hi => absurd hi (Nat.not_lt_zero i)⟩, ⟨?_, by decide, fun i hi => absurd hi (Nat.not_lt_zero i)⟩, ?_, ?_, Or.inl ?_⟩
  · rw [wz 1 (by decide), r1]; exact g1_1
  · rw [wz 1 (by decide), r1]; exact g1_2
  · rw [wz 1 (by decide), r1]; exact g1_4.trans (by decide)
  · rw [wz 1 (by decide), r1]; exact g1_3
  · rw [wz 5 (by decide), r5]; exact g2_1
  · rw [wz 5 (by decide), r5]; exact g2_2
  · rw [wz 5 (by decide), r5]; exact g2_4.trans (by decide)
  · rw [wz 5 (by decide), r5]; exact g2_3
  · rw [wz 9 (by decide), r9]; exact g3_1
  · rw [wz 13 (by decide), r13]; exact g4_1
  · rw [wz 17 (by decide), r17]; exact g5_1
  · intro i hi
    refine Or.inl ⟨rfl, ?_⟩
    rcases (show i = 0 ∨ i = 1 ∨ i = 2 ∨ i = 3 by omega) with rfl | rfl | rfl | rfl
    · show (ur _ 0 _).1 22 1 = -1
      rw [wz 22 (by decide), r22]; exact g6_1
    · show (ur _ 0 _).1 24 1 = -1
      rw [wz 24 (by decide), r24]; exact g7_1
    · show (ur _ 0 _).1 26 1 = -1
      rw [wz 26 (by decide), r26]; exact g8_1
    · show (ur _ 0 _).1 28 1 = -1
      rw [wz 28 (by decide), r28]; exact g9_1
  · rw [ur_s, upd_s]; rfl
  · rw [ur_s, upd_n (by decide), ur_s, upd_s]
def h61 : HD := (uR (hN (uR (hN (uR (hN (uR (hN (uR (hN (uR (hN (uR (hN (uR (hN (uR (hN (uR (hN (uR (hN (uR (hN (uR (hN (uR (hN (uR (hN (uR (hN (uR (hN (uR (hN (hN h42 (8, 0)) (0, 4)) 42 0 43) (0, 4)) 42 1 44) (0, 240)) 42 2 45) (0, 60)) 42 3 46) (0, 48)) 42 5 47) (0, 2)) 42 6 48) (0, 2)) 42 8 49) (0, 28)) 42 9 50) (0, 132)) 42 11 51) (0, 192)) 42 12 52) (0, 192)) 42 13 53) (0, 8)) 42 14 54) (0, 24)) 42 15 55) (0, 8)) 42 16 56) (0, 8)) 42 17 57) (0, 24)) 42 19 58) (0, 24)) 42 21 59) (1, 24)) 42 22 60)
set_option maxRecDepth 100000 in
set_option maxHeartbeats 4000000 in
theorem cX5 {G : GW} {σ : St} (hz : σ.1 42 = fun _ => 0) : Cn G { frames := 1, cells := 18, slots := 1024, locals := 20 } mX5_init (18, 1024) [rf G 42] (hN h42 (8, 0)) σ h61 (fun τ => (∀ i, i < 42 → τ.1 i = σ.1 i) ∧ MI x0 τ) := by
  refine C.of (L := [some (rf G 42), none]) (by decide) rfl (Nat.le_of_ble_eq_true rfl) ?_
  refine A.al0 eX5_init_0 ?_
  refine A.obj eX5_init_1 kobX5 ⟨Nat.le_of_ble_eq_true rfl, Nat.le_of_ble_eq_true rfl⟩ ?_
  refine A.al0 eX5_init_4 ?_
  refine A.iconst (v := nI 4) eX5_init_5 (by decide) ?_
  refine A.newIa (N := 4) (a := 43) (kv := (1, 4)) eX5_init_6 rfl rfl (Nat.le_of_ble_eq_true rfl) (Nat.le_of_ble_eq_true rfl) (Nat.le_of_ble_eq_true rfl) ?_
  refine A.putFR eX5_init_8 pX5_7 ⟨Nat.le_of_ble_eq_true rfl, rfl⟩ rfl rfl rfl rfl ?_
  refine A.al0 eX5_init_11 ?_
  refine A.iconst (v := nI 4) eX5_init_12 (by decide) ?_
  refine A.newIa (N := 4) (a := 44) (kv := (2, 8)) eX5_init_13 rfl rfl (Nat.le_of_ble_eq_true rfl) (Nat.le_of_ble_eq_true rfl) (Nat.le_of_ble_eq_true rfl) ?_
  refine A.putFR eX5_init_15 pX5_13 ⟨Nat.le_of_ble_eq_true rfl, rfl⟩ rfl rfl rfl rfl ?_
  refine A.al0 eX5_init_18 ?_
  refine A.sipush (v := nI 240) eX5_init_19 (by decide) ?_
  refine A.newIa (N := 240) (a := 45) (kv := (3, 248)) eX5_init_22 rfl rfl (Nat.le_of_ble_eq_true rfl) (Nat.le_of_ble_eq_true rfl) (Nat.le_of_ble_eq_true rfl) ?_
  refine A.putFR eX5_init_24 pX5_16 ⟨Nat.le_of_ble_eq_true rfl, rfl⟩ rfl rfl rfl rfl ?_
  refine A.al0 eX5_init_27 ?_
  refine A.bipush (v := nI 60) eX5_init_28 (by decide) ?_
  refine A.newIa (N := 60) (a := 46) (kv := (4, 308)) eX5_init_30 rfl rfl (Nat.le_of_ble_eq_true rfl) (Nat.le_of_ble_eq_true rfl) (Nat.le_of_ble_eq_true rfl) ?_
  refine A.putFR eX5_init_32 pX5_19 ⟨Nat.le_of_ble_eq_true rfl, rfl⟩ rfl rfl rfl rfl ?_
  refine A.al0 eX5_init_35 ?_
  refine A.bipush (v := nI 48) eX5_init_36 (by decide) ?_
  refine A.newIa (N := 48) (a := 47) (kv := (5, 356)) eX5_init_38 rfl rfl (Nat.le_of_ble_eq_true rfl) (Nat.le_of_ble_eq_true rfl) (Nat.le_of_ble_eq_true rfl) ?_
  refine A.putFR eX5_init_40 pX5_22 ⟨Nat.le_of_ble_eq_true rfl, rfl⟩ rfl rfl rfl rfl ?_
  refine A.al0 eX5_init_43 ?_
  refine A.iconst (v := nI 2) eX5_init_44 (by decide) ?_
  refine A.newIa (N := 2) (a := 48) (kv := (6, 358)) eX5_init_45 rfl rfl (Nat.le_of_ble_eq_true rfl) (Nat.le_of_ble_eq_true rfl) (Nat.le_of_ble_eq_true rfl) ?_
  refine A.putFR eX5_init_47 pX5_25 ⟨Nat.le_of_ble_eq_true rfl, rfl⟩ rfl rfl rfl rfl ?_
  refine A.al0 eX5_init_50 ?_
  refine A.iconst (v := nI 2) eX5_init_51 (by decide) ?_
  refine A.newIa (N := 2) (a := 49) (kv := (7, 360)) eX5_init_52 rfl rfl (Nat.le_of_ble_eq_true rfl) (Nat.le_of_ble_eq_true rfl) (Nat.le_of_ble_eq_true rfl) ?_
  refine A.putFR eX5_init_54 pX5_28 ⟨Nat.le_of_ble_eq_true rfl, rfl⟩ rfl rfl rfl rfl ?_
  refine A.al0 eX5_init_57 ?_
  refine A.bipush (v := nI 28) eX5_init_58 (by decide) ?_
  refine A.newIa (N := 28) (a := 50) (kv := (8, 388)) eX5_init_60 rfl rfl (Nat.le_of_ble_eq_true rfl) (Nat.le_of_ble_eq_true rfl) (Nat.le_of_ble_eq_true rfl) ?_
  refine A.putFR eX5_init_62 pX5_31 ⟨Nat.le_of_ble_eq_true rfl, rfl⟩ rfl rfl rfl rfl ?_
  refine A.al0 eX5_init_65 ?_
  refine A.sipush (v := nI 132) eX5_init_66 (by decide) ?_
  refine A.newIa (N := 132) (a := 51) (kv := (9, 520)) eX5_init_69 rfl rfl (Nat.le_of_ble_eq_true rfl) (Nat.le_of_ble_eq_true rfl) (Nat.le_of_ble_eq_true rfl) ?_
  refine A.putFR eX5_init_71 pX5_34 ⟨Nat.le_of_ble_eq_true rfl, rfl⟩ rfl rfl rfl rfl ?_
  refine A.al0 eX5_init_74 ?_
  refine A.sipush (v := nI 192) eX5_init_75 (by decide) ?_
  refine A.newIa (N := 192) (a := 52) (kv := (10, 712)) eX5_init_78 rfl rfl (Nat.le_of_ble_eq_true rfl) (Nat.le_of_ble_eq_true rfl) (Nat.le_of_ble_eq_true rfl) ?_
  refine A.putFR eX5_init_80 pX5_37 ⟨Nat.le_of_ble_eq_true rfl, rfl⟩ rfl rfl rfl rfl ?_
  refine A.al0 eX5_init_83 ?_
  refine A.sipush (v := nI 192) eX5_init_84 (by decide) ?_
  refine A.newIa (N := 192) (a := 53) (kv := (11, 904)) eX5_init_87 rfl rfl (Nat.le_of_ble_eq_true rfl) (Nat.le_of_ble_eq_true rfl) (Nat.le_of_ble_eq_true rfl) ?_
  refine A.putFR eX5_init_89 pX5_40 ⟨Nat.le_of_ble_eq_true rfl, rfl⟩ rfl rfl rfl rfl ?_
  refine A.al0 eX5_init_92 ?_
  refine A.bipush (v := nI 8) eX5_init_93 (by decide) ?_
  refine A.newIa (N := 8) (a := 54) (kv := (12, 912)) eX5_init_95 rfl rfl (Nat.le_of_ble_eq_true rfl) (Nat.le_of_ble_eq_true rfl) (Nat.le_of_ble_eq_true rfl) ?_
  refine A.putFR eX5_init_97 pX5_43 ⟨Nat.le_of_ble_eq_true rfl, rfl⟩ rfl rfl rfl rfl ?_
  refine A.al0 eX5_init_100 ?_
  refine A.bipush (v := nI 24) eX5_init_101 (by decide) ?_
  refine A.newIa (N := 24) (a := 55) (kv := (13, 936)) eX5_init_103 rfl rfl (Nat.le_of_ble_eq_true rfl) (Nat.le_of_ble_eq_true rfl) (Nat.le_of_ble_eq_true rfl) ?_
  refine A.putFR eX5_init_105 pX5_46 ⟨Nat.le_of_ble_eq_true rfl, rfl⟩ rfl rfl rfl rfl ?_
  refine A.al0 eX5_init_108 ?_
  refine A.bipush (v := nI 8) eX5_init_109 (by decide) ?_
  refine A.newIa (N := 8) (a := 56) (kv := (14, 944)) eX5_init_111 rfl rfl (Nat.le_of_ble_eq_true rfl) (Nat.le_of_ble_eq_true rfl) (Nat.le_of_ble_eq_true rfl) ?_
  refine A.putFR eX5_init_113 pX5_49 ⟨Nat.le_of_ble_eq_true rfl, rfl⟩ rfl rfl rfl rfl ?_
  refine A.al0 eX5_init_116 ?_
  refine A.bipush (v := nI 8) eX5_init_117 (by decide) ?_
  refine A.newIa (N := 8) (a := 57) (kv := (15, 952)) eX5_init_119 rfl rfl (Nat.le_of_ble_eq_true rfl) (Nat.le_of_ble_eq_true rfl) (Nat.le_of_ble_eq_true rfl) ?_
  refine A.putFR eX5_init_121 pX5_52 ⟨Nat.le_of_ble_eq_true rfl, rfl⟩ rfl rfl rfl rfl ?_
  refine A.al0 eX5_init_124 ?_
  refine A.bipush (v := nI 24) eX5_init_125 (by decide) ?_
  refine A.newIa (N := 24) (a := 58) (kv := (16, 976)) eX5_init_127 rfl rfl (Nat.le_of_ble_eq_true rfl) (Nat.le_of_ble_eq_true rfl) (Nat.le_of_ble_eq_true rfl) ?_
  refine A.putFR eX5_init_129 pX5_55 ⟨Nat.le_of_ble_eq_true rfl, rfl⟩ rfl rfl rfl rfl ?_
  refine A.al0 eX5_init_132 ?_
  refine A.bipush (v := nI 24) eX5_init_133 (by decide) ?_
  refine A.newIa (N := 24) (a := 59) (kv := (17, 1000)) eX5_init_135 rfl rfl (Nat.le_of_ble_eq_true rfl) (Nat.le_of_ble_eq_true rfl) (Nat.le_of_ble_eq_true rfl) ?_
  refine A.putFR eX5_init_137 pX5_58 ⟨Nat.le_of_ble_eq_true rfl, rfl⟩ rfl rfl rfl rfl ?_
  refine A.al0 eX5_init_140 ?_
  refine A.bipush (v := nI 24) eX5_init_141 (by decide) ?_
  refine A.newJa (N := 24) (a := 60) (kv := (18, 1024)) eX5_init_143 rfl rfl (Nat.le_of_ble_eq_true rfl) (Nat.le_of_ble_eq_true rfl) (Nat.le_of_ble_eq_true rfl) ?_
  refine A.putFR eX5_init_145 pX5_61 ⟨Nat.le_of_ble_eq_true rfl, rfl⟩ rfl rfl rfl rfl ?_
  refine A.iconst (v := nI 0) eX5_init_148 (by decide) ?_
  refine A.is1 eX5_init_149 ?_
  refine A.il1 eX5_init_150 ?_
  refine A.iconst (v := nI 4) eX5_init_151 (by decide) ?_
  refine A.icmp_geN eX5_init_152 (fun yc => absurd yc (by decide)) (fun _ => ?_)
  refine A.al0 eX5_init_155 ?_
  refine A.getR (r := 43) eX5_init_156 fX5_7 ⟨Nat.le_of_ble_eq_true rfl, rfl⟩ rfl ?_
  refine A.il1 eX5_init_159 ?_
  refine A.iconst (v := -1) eX5_init_160 (by decide) ?_
  refine A.iastN (n := 4) eX5_init_161 ⟨Nat.le_of_ble_eq_true rfl, rfl⟩ ?_
  refine A.inc1N eX5_init_162 ?_
  refine A.goto eX5_init_165 ?_
  refine A.il1 eX5_init_150 ?_
  refine A.iconst (v := nI 4) eX5_init_151 (by decide) ?_
  refine A.icmp_geN eX5_init_152 (fun yc => absurd yc (by decide)) (fun _ => ?_)
  refine A.al0 eX5_init_155 ?_
  refine A.getR (r := 43) eX5_init_156 fX5_7 ⟨Nat.le_of_ble_eq_true rfl, rfl⟩ rfl ?_
  refine A.il1 eX5_init_159 ?_
  refine A.iconst (v := -1) eX5_init_160 (by decide) ?_
  refine A.iastN (n := 4) eX5_init_161 ⟨Nat.le_of_ble_eq_true rfl, rfl⟩ ?_
  refine A.inc1N eX5_init_162 ?_
  refine A.goto eX5_init_165 ?_
  refine A.il1 eX5_init_150 ?_
  refine A.iconst (v := nI 4) eX5_init_151 (by decide) ?_
  refine A.icmp_geN eX5_init_152 (fun yc => absurd yc (by decide)) (fun _ => ?_)
  refine A.al0 eX5_init_155 ?_
  refine A.getR (r := 43) eX5_init_156 fX5_7 ⟨Nat.le_of_ble_eq_true rfl, rfl⟩ rfl ?_
  refine A.il1 eX5_init_159 ?_
  refine A.iconst (v := -1) eX5_init_160 (by decide) ?_
  refine A.iastN (n := 4) eX5_init_161 ⟨Nat.le_of_ble_eq_true rfl, rfl⟩ ?_
  refine A.inc1N eX5_init_162 ?_
  refine A.goto eX5_init_165 ?_
  refine A.il1 eX5_init_150 ?_
  refine A.iconst (v := nI 4) eX5_init_151 (by decide) ?_
  refine A.icmp_geN eX5_init_152 (fun yc => absurd yc (by decide)) (fun _ => ?_)
  refine A.al0 eX5_init_155 ?_
  refine A.getR (r := 43) eX5_init_156 fX5_7 ⟨Nat.le_of_ble_eq_true rfl, rfl⟩ rfl ?_
  refine A.il1 eX5_init_159 ?_
  refine A.iconst (v := -1) eX5_init_160 (by decide) ?_
  refine A.iastN (n := 4) eX5_init_161 ⟨Nat.le_of_ble_eq_true rfl, rfl⟩ ?_
  refine A.inc1N eX5_init_162 ?_
  refine A.goto eX5_init_165 ?_
  refine A.il1 eX5_init_150 ?_
  refine A.iconst (v := nI 4) eX5_init_151 (by decide) ?_
  refine A.icmp_geN eX5_init_152 (fun _ => ?_) (fun yc => absurd yc (by decide))
  refine A.vret eX5_init_168 rfl rfl ⟨rfl, rfl, ?_, ?_⟩
  · intro i hi
    have z43 : i ≠ 43 := by omega
    have z44 : i ≠ 44 := by omega
    have z45 : i ≠ 45 := by omega
    have z46 : i ≠ 46 := by omega
    have z47 : i ≠ 47 := by omega
    have z48 : i ≠ 48 := by omega
    have z49 : i ≠ 49 := by omega
    have z50 : i ≠ 50 := by omega
    have z51 : i ≠ 51 := by omega
    have z52 : i ≠ 52 := by omega
    have z53 : i ≠ 53 := by omega
    have z54 : i ≠ 54 := by omega
    have z55 : i ≠ 55 := by omega
    have z56 : i ≠ 56 := by omega
    have z57 : i ≠ 57 := by omega
    have z58 : i ≠ 58 := by omega
    have z59 : i ≠ 59 := by omega
    have z60 : i ≠ 60 := by omega
    simp [ur, uj, z43, z44, z45, z46, z47, z48, z49, z50, z51, z52, z53, z54, z55, z56, z57, z58, z59, z60]
  refine ⟨?_, ⟨?_, by decide, fun i hi => absurd hi (Nat.not_lt_zero i)⟩, ⟨?_, by decide, fun i hi => absurd hi (Nat.not_lt_zero i)⟩, ⟨?_, by decide, fun i hi => absurd hi (Nat.not_lt_zero i)⟩, ?_, ?_⟩
  · intro t ht
    rcases (show t = 0 ∨ t = 1 by omega) with rfl | rfl
    · exact ⟨by simp [ur, uj]; rfl, by decide, fun i hi => absurd hi (Nat.not_lt_zero i)⟩
    · exact ⟨by simp [ur, uj]; rfl, by decide, fun i hi => absurd hi (Nat.not_lt_zero i)⟩
  · simp [ur, uj, hz]; rfl
  · simp [ur, uj, hz]; rfl
  · simp [ur, uj, hz]; rfl
  · intro i hi
    refine ⟨?_, fun g yg => absurd yg (by simp [x0, xh]), Nat.zero_le 60, fun j yj => absurd yj (Nat.not_lt_zero j)⟩
    rcases (show i = 0 ∨ i = 1 ∨ i = 2 ∨ i = 3 by omega) with rfl | rfl | rfl | rfl <;> (simp [ur, uj, upd]; rfl)
  · simp [ur, uj, hz]; rfl
/-- nothing is told of what lies outside -/
def Su (h : HD) : Prop := (∀ k, h.1 ≤ k → h.2.1 k = (0, 0) ∧ ∀ j, h.2.2 k j = none) ∧ ∀ k j, 30 ≤ j → h.2.2 k j = none
theorem Su.n {h : HD} {kd : Nat × Nat} (y : Su h) : Su (hN h kd) := by
  refine ⟨fun k yk => ?_, fun k j yj => ?_⟩
  · have yk' : h.1 + 1 ≤ k := yk
    have e : ¬ k = h.1 := by omega
    obtain ⟨y1, y2⟩ := y.1 k (by omega)
    exact ⟨by show (if k = h.1 then kd else h.2.1 k) = (0, 0); rw [if_neg e]; exact y1, fun j => by show (if k = h.1 then none else h.2.2 k j) = none; rw [if_neg e]; exact y2 j⟩
  · show (if k = h.1 then none else h.2.2 k j) = none
    split
    · rfl
    · exact y.2 k j yj
theorem Su.r {h : HD} {k j r : Nat} (y : Su h) (hk : k < h.1) (hj : j < 30) : Su (uR h k j r) := by
  refine ⟨fun k' yk => ?_, fun k' j' yj => ?_⟩
  · have yk' : h.1 ≤ k' := yk
    obtain ⟨y1, y2⟩ := y.1 k' yk'
    refine ⟨y1, fun j' => ?_⟩
    show (if k' = k ∧ j' = j then some r else h.2.2 k' j') = none
    rw [if_neg (by omega)]; exact y2 j'
  · show (if k' = k ∧ j' = j then some r else h.2.2 k' j') = none
    rw [if_neg (by omega)]; exact y.2 k' j' yj
theorem Su.E0 {h : HD} {k a n : Nat} (y : Su h) (hk : k < h.1) : Su (E0 h k a n) := (((((y.n.r (Nat.lt_succ_of_lt hk) (by decide)).n).r (Nat.lt_succ_of_lt (Nat.lt_succ_of_lt hk)) (by decide)).n).r (Nat.lt_succ_of_lt (Nat.lt_succ_of_lt (Nat.lt_succ_of_lt hk))) (by decide))
theorem Su.E1 {h : HD} {k a : Nat} (y : Su h) (hk : k < h.1) : Su (E1 h k a) := y.n.r (Nat.lt_succ_of_lt hk) (by decide)
theorem Su.E2 {h : HD} {k a n : Nat} (y : Su h) (hk : k < h.1) : Su (E2 h k a n) := (((((y.n.r (Nat.lt_succ_of_lt hk) (by decide)).n).r (Nat.lt_succ_of_lt (Nat.lt_succ_of_lt hk)) (by decide)).n).r (Nat.lt_succ_of_lt (Nat.lt_succ_of_lt (Nat.lt_succ_of_lt hk))) (by decide))
theorem Su.E3 {h : HD} {k a : Nat} (y : Su h) (hk : k < h.1) : Su (E3 h k a) := by
  have z1 := Nat.lt_succ_of_lt hk
  have z2 := Nat.lt_succ_of_lt z1
  have z3 := Nat.lt_succ_of_lt z2
  have z4 := Nat.lt_succ_of_lt z3
  have z5 := Nat.lt_succ_of_lt z4
  exact (((((((((((y.r hk (by decide)).r hk (by decide)).r hk (by decide)).n).r z1 (by decide)).n).r z2 (by decide)).n).r z3 (by decide)).n).r z4 (by decide)).n.r z5 (by decide)
theorem u_he : Su he := ⟨fun _ _ => ⟨rfl, fun _ => rfl⟩, fun _ _ _ => rfl⟩
theorem u_h01 : Su h01 := u_he.n
theorem u_hq1 : Su hq1 := ((u_h01).n).E0 (Nat.le_of_ble_eq_true rfl)
theorem u_hq2 : Su hq2 := (((u_hq1).r (Nat.le_of_ble_eq_true rfl) (by decide)).n).E0 (Nat.le_of_ble_eq_true rfl)
theorem u_hq3 : Su hq3 := (((u_hq2).r (Nat.le_of_ble_eq_true rfl) (by decide)).n).E2 (Nat.le_of_ble_eq_true rfl)
theorem u_hq4 : Su hq4 := (((u_hq3).r (Nat.le_of_ble_eq_true rfl) (by decide)).n).E2 (Nat.le_of_ble_eq_true rfl)
theorem u_hq5 : Su hq5 := (((u_hq4).r (Nat.le_of_ble_eq_true rfl) (by decide)).n).E2 (Nat.le_of_ble_eq_true rfl)
theorem u_hq6 : Su hq6 := (((((u_hq5).r (Nat.le_of_ble_eq_true rfl) (by decide)).n).r (Nat.le_of_ble_eq_true rfl) (by decide)).n).E1 (Nat.le_of_ble_eq_true rfl)
theorem u_hq7 : Su hq7 := (((u_hq6).r (Nat.le_of_ble_eq_true rfl) (by decide)).n).E1 (Nat.le_of_ble_eq_true rfl)
theorem u_hq8 : Su hq8 := (((u_hq7).r (Nat.le_of_ble_eq_true rfl) (by decide)).n).E1 (Nat.le_of_ble_eq_true rfl)
theorem u_hq9 : Su hq9 := (((u_hq8).r (Nat.le_of_ble_eq_true rfl) (by decide)).n).E1 (Nat.le_of_ble_eq_true rfl)
theorem u_hq10 : Su hq10 := (((u_hq9).r (Nat.le_of_ble_eq_true rfl) (by decide)).n).E3 (Nat.le_of_ble_eq_true rfl)
theorem u_hq11 : Su hq11 := (((u_hq10).r (Nat.le_of_ble_eq_true rfl) (by decide)).n).E3 (Nat.le_of_ble_eq_true rfl)
theorem u_h42 : Su h42 := (u_hq11).r (Nat.le_of_ble_eq_true rfl) (by decide)
theorem u_h61 : Su h61 := (((((((((((((((((((((((((((((((((((((u_h42).n).n).r (Nat.le_of_ble_eq_true rfl) (by decide)).n).r (Nat.le_of_ble_eq_true rfl) (by decide)).n).r (Nat.le_of_ble_eq_true rfl) (by decide)).n).r (Nat.le_of_ble_eq_true rfl) (by decide)).n).r (Nat.le_of_ble_eq_true rfl) (by decide)).n).r (Nat.le_of_ble_eq_true rfl) (by decide)).n).r (Nat.le_of_ble_eq_true rfl) (by decide)).n).r (Nat.le_of_ble_eq_true rfl) (by decide)).n).r (Nat.le_of_ble_eq_true rfl) (by decide)).n).r (Nat.le_of_ble_eq_true rfl) (by decide)).n).r (Nat.le_of_ble_eq_true rfl) (by decide)).n).r (Nat.le_of_ble_eq_true rfl) (by decide)).n).r (Nat.le_of_ble_eq_true rfl) (by decide)).n).r (Nat.le_of_ble_eq_true rfl) (by decide)).n).r (Nat.le_of_ble_eq_true rfl) (by decide)).n).r (Nat.le_of_ble_eq_true rfl) (by decide)).n).r (Nat.le_of_ble_eq_true rfl) (by decide)).n).r (Nat.le_of_ble_eq_true rfl) (by decide)
theorem gD_out {α : Type} (l : List α) (n : Nat) (d : α) (y : l.length ≤ n) : l.getD n d = d := by
  rw [List.getD_eq_getElem?_getD, List.getElem?_eq_none y]; rfl
theorem u_hd0 : Su hd0 := by
  refine ⟨fun k yk => ⟨?_, fun j => ?_⟩, fun k j yj => ?_⟩
  · have yk' : 61 ≤ k := yk
    show K0.getD k (0, 0) = (0, 0)
    exact gD_out _ _ _ yk'
  · have yk' : 61 ≤ k := yk
    show R0 k j = none
    unfold R0
    split <;> first | omega | rfl
  · show R0 k j = none
    unfold R0
    split <;> first | rfl | exact gD_out _ _ _ (Nat.le_trans (by decide) yj)
theorem Su.eq {h g : HD} (y : Su h) (z : Su g) (h1 : h.1 = g.1) (h2 : ∀ k : Fin g.1, h.2.1 k = g.2.1 k) (h3 : ∀ k : Fin g.1, ∀ j : Fin 30, h.2.2 k j = g.2.2 k j) : h = g := by
  obtain ⟨a, b, c⟩ := h
  obtain ⟨a', b', c'⟩ := g
  have e1 : a = a' := h1
  subst e1
  refine congrArg (Prod.mk a) ?_
  have e2 : b = b' := by
    funext k
    by_cases yk : k < a
    · exact h2 ⟨k, yk⟩
    · exact ((y.1 k (Nat.not_lt.mp yk)).1).trans ((z.1 k (Nat.not_lt.mp yk)).1).symm
  have e3 : c = c' := by
    funext k j
    by_cases yk : k < a
    · by_cases yj : j < 30
      · exact h3 ⟨k, yk⟩ ⟨j, yj⟩
      · exact (y.2 k j (Nat.not_lt.mp yj)).trans (z.2 k j (Nat.not_lt.mp yj)).symm
    · exact ((y.1 k (Nat.not_lt.mp yk)).2 j).trans ((z.1 k (Nat.not_lt.mp yk)).2 j).symm
  rw [e2, e3]
set_option maxRecDepth 100000 in
theorem h61_eq : h61 = hd0 := Su.eq u_h61 u_hd0 rfl (by decide +kernel) (by decide +kernel)
