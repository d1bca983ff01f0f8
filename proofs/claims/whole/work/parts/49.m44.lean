set_option maxRecDepth 100000 in
theorem lsw {G : GW} {nm : String} {i : Nat} {x : XS} {σ : St} {v : Int32} (hL : (gX G).2.1 ≤ 3072) (hi : i + 6 ≤ (gX G).2.1) (hC : CI x σ) (hM : MI x σ) (kk : ∀ (x' : XS) (τ : St), CI x' τ → MI x' τ → LB G nm 1373 i [] τ) : LB G nm 33 i [.int v] σ := by
  by_cases y1 : v.toInt < 0
  · exact A.tableOut iL_33 (Or.inl y1) rfl (kk x σ hC hM)
  by_cases y2 : 35 < v.toInt
  · exact A.tableOut iL_33 (Or.inr y2) rfl (kk x σ hC hM)
  obtain ⟨j, y3, rfl⟩ := i_nat (x := v) (n := 36) (by omega) (by omega)
  clear y1 y2
  match j, y3 with
  | 0, _ => exact A.tableIn (off := 159) iL_33 (by decide) (by decide) rfl rfl (lc_0 hL hi hC hM kk)
  | 1, _ => exact A.tableIn (off := 192) iL_33 (by decide) (by decide) rfl rfl (lc_1 hL hi hC hM kk)
  | 2, _ => exact A.tableIn (off := 215) iL_33 (by decide) (by decide) rfl rfl (lc_2 hL hi hC hM kk)
  | 3, _ => exact A.tableIn (off := 238) iL_33 (by decide) (by decide) rfl rfl (lc_3 hL hi hC hM kk)
  | 4, _ => exact A.tableIn (off := 261) iL_33 (by decide) (by decide) rfl rfl (lc_4 hL hi hC hM kk)
  | 5, _ => exact A.tableIn (off := 294) iL_33 (by decide) (by decide) rfl rfl (lc_5 hL hi hC hM kk)
  | 6, _ => exact A.tableIn (off := 327) iL_33 (by decide) (by decide) rfl rfl (lc_6 hL hi hC hM kk)
  | 7, _ => exact A.tableIn (off := 370) iL_33 (by decide) (by decide) rfl rfl (lc_7 hL hi hC hM kk)
  | 8, _ => exact A.tableIn (off := 383) iL_33 (by decide) (by decide) rfl rfl (lc_8 hL hi hC hM kk)
  | 9, _ => exact A.tableIn (off := 406) iL_33 (by decide) (by decide) rfl rfl (lc_9 hL hi hC hM kk)
  | 10, _ => exact A.tableIn (off := 439) iL_33 (by decide) (by decide) rfl rfl (lc_10 hL hi hC hM kk)
  | 11, _ => exact A.tableIn (off := 472) iL_33 (by decide) (by decide) rfl rfl (lc_11 hL hi hC hM kk)
  | 12, _ => exact A.tableIn (off := 505) iL_33 (by decide) (by decide) rfl rfl (lc_12 hL hi hC hM kk)
  | 13, _ => exact A.tableIn (off := 549) iL_33 (by decide) (by decide) rfl rfl (lc_13 hL hi hC hM kk)
  | 14, _ => exact A.tableIn (off := 572) iL_33 (by decide) (by decide) rfl rfl (lc_14 hL hi hC hM kk)
  | 15, _ => exact A.tableIn (off := 595) iL_33 (by decide) (by decide) rfl rfl (lc_15 hL hi hC hM kk)
  | 16, _ => exact A.tableIn (off := 618) iL_33 (by decide) (by decide) rfl rfl (lc_16 hL hi hC hM kk)
  | 17, _ => exact A.tableIn (off := 631) iL_33 (by decide) (by decide) rfl rfl (lc_17 hL hi hC hM kk)
  | 18, _ => exact A.tableIn (off := 674) iL_33 (by decide) (by decide) rfl rfl (lc_18 hL hi hC hM kk)
  | 19, _ => exact A.tableIn (off := 727) iL_33 (by decide) (by decide) rfl rfl (lc_19 hL hi hC hM kk)
  | 20, _ => exact A.tableIn (off := 770) iL_33 (by decide) (by decide) rfl rfl (lc_20 hL hi hC hM kk)
  | 21, _ => exact A.tableIn (off := 813) iL_33 (by decide) (by decide) rfl rfl (lc_21 hL hi hC hM kk)
  | 22, _ => exact A.tableIn (off := 856) iL_33 (by decide) (by decide) rfl rfl (lc_22 hL hi hC hM kk)
  | 23, _ => exact A.tableIn (off := 879) iL_33 (by decide) (by decide) rfl rfl (lc_23 hL hi hC hM kk)
  | 24, _ => exact A.tableIn (off := 902) iL_33 (by decide) (by decide) rfl rfl (lc_24 hL hi hC hM kk)
  | 25, _ => exact A.tableIn (off := 915) iL_33 (by decide) (by decide) rfl rfl (lc_25 hL hi hC hM kk)
  | 26, _ => exact A.tableIn (off := 969) iL_33 (by decide) (by decide) rfl rfl (lc_26 hL hi hC hM kk)
  | 27, _ => exact A.tableIn (off := 1012) iL_33 (by decide) (by decide) rfl rfl (lc_27 hL hi hC hM kk)
  | 28, _ => exact A.tableIn (off := 1045) iL_33 (by decide) (by decide) rfl rfl (lc_28 hL hi hC hM kk)
  | 29, _ => exact A.tableIn (off := 1088) iL_33 (by decide) (by decide) rfl rfl (lc_29 hL hi hC hM kk)
  | 30, _ => exact A.tableIn (off := 1111) iL_33 (by decide) (by decide) rfl rfl (lc_30 hL hi hC hM kk)
  | 31, _ => exact A.tableIn (off := 1164) iL_33 (by decide) (by decide) rfl rfl (lc_31 hL hi hC hM kk)
  | 32, _ => exact A.tableIn (off := 1207) iL_33 (by decide) (by decide) rfl rfl (lc_32 hL hi hC hM kk)
  | 33, _ => exact A.tableIn (off := 1270) iL_33 (by decide) (by decide) rfl rfl (lc_33 hL hi hC hM kk)
  | 34, _ => exact A.tableIn (off := 1303) iL_33 (by decide) (by decide) rfl rfl (lc_34 hL hi hC hM kk)
  | 35, _ => exact A.tableIn (off := 1326) iL_33 (by decide) (by decide) rfl rfl (lc_35 hL hi hC hM kk)
  | j + 36, y3 => exact absurd y3 (by omega)
set_option maxRecDepth 100000 in
theorem law_loop {G : GW} {nm : String} (hL : (gX G).2.1 ≤ 3072) : ∀ (fu i : Nat) (x : XS) (σ : St), (gX G).2.1 + 6 - i < fu → i ≤ 3072 → CI x σ → MI x σ → LB G nm 18 i [] σ := by
  intro fu
  induction fu with
  | zero => intro i x σ y1; exact absurd y1 (Nat.not_lt_zero _)
  | succ fu ih =>
    intro i x σ y1 y2 hC hM
    refine A.il3 iL_18 ?_
    refine A.alS iL_19 ?_
    refine A.slen iL_20 ?_
    refine A.bipush (v := nI 6) iL_21 (by decide) ?_
    refine A.topZ ?_
    refine A.topZ2 ?_
    refine A.isubZ iL_23 ?_
    refine A.topZ2 ?_
    refine A.icmp_gtZ iL_24 (fun y3 => ?_) (fun y3 => ?_)
    · refine A.iconst (v := 1) iL_1379 (by decide) ?_
      exact A.zret iL_1380 rfl rfl (Or.inr rfl) rfl
    · have hi : i + 6 ≤ (gX G).2.1 := by omega
      refine A.alS iL_27 ?_
      refine A.il3 iL_28 ?_
      refine A.sld iL_29 (by omega) hL ?_
      refine A.bipush (v := nI 63) iL_30 (by decide) ?_
      refine A.iand iL_32 ?_
      refine lsw hL hi hC hM (fun x' τ yC yM => ?_)
      refine A.inc3 (v := nI (i + 6)) iL_1373 (by rw [show Int32.ofInt 6 = nI 6 by decide, nI_add]) ?_ (Nat.le_of_ble_eq_true rfl)
      refine A.goto iL_1376 ?_
      exact ih (i + 6) x' τ (by omega) (by omega) yC yM
set_option maxRecDepth 100000 in
theorem law_all {G : GW} {nm : String} (hL : (gX G).2.1 ≤ 3072) : A G room_1 (mLn nm) (0, 0) (61, 2339) 0 [some (.ref (gX G).1), none, none, none] [] he (fun _ _ => 0, fun _ _ => 0) QL := by
  refine A.newCa (ci := 4) (a := 0) (kv := (1, 10)) iL_0 (by decide) qL_7 in_X4 it_X4 df4 rfl rfl (Nat.le_of_ble_eq_true rfl) (Nat.le_of_ble_eq_true rfl) ?_
  refine A.dup iL_3 rfl ?_
  refine A.cI (E := h42) (As := []) (kv := (42, 1290)) iL_4 oX4_init kL_9 cX4 rfl rfl rfl rfl rfl (Nat.le_of_ble_eq_true rfl) ⟨rfl, rfl, Nat.le_of_ble_eq_true rfl, Nat.le_of_ble_eq_true rfl, Nat.le_of_ble_eq_true rfl, Nat.le_of_ble_eq_true rfl⟩ ?_
  intro s1 hC
  refine A.as1 iL_7 ?_ (Nat.le_of_ble_eq_true rfl)
  refine A.newCa (ci := 5) (a := 42) (kv := (43, 1315)) iL_8 (by decide) qL_10 in_X5 it_X5 df5 rfl rfl (Nat.le_of_ble_eq_true rfl) (Nat.le_of_ble_eq_true rfl) ?_
  refine A.dup iL_11 rfl ?_
  refine A.cI (E := h61) (As := []) (kv := (61, 2339)) iL_12 oX5_init kL_12 (cX5 (zs_s s1 42)) rfl rfl rfl rfl rfl (Nat.le_of_ble_eq_true rfl) ⟨rfl, rfl, Nat.le_of_ble_eq_true rfl, Nat.le_of_ble_eq_true rfl, Nat.le_of_ble_eq_true rfl, Nat.le_of_ble_eq_true rfl⟩ ?_
  intro s2 hM
  refine A.as2 iL_15 ?_ (Nat.le_of_ble_eq_true rfl)
  refine A.iconst (v := nI 0) iL_16 (by decide) ?_
  refine A.is3 iL_17 ?_ (Nat.le_of_ble_eq_true rfl)
  rw [h61_eq]
  exact law_loop hL ((gX G).2.1 + 7) 0 x0 s2 (by omega) (by omega) (CI.cgm (fun k yk => (hM.1 k yk).trans (zs_n (by omega))) hC) hM.2
