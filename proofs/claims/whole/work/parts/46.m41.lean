theorem Ko.n {h : HD} {k c : Nat} {kd : Nat × Nat} (hk : Ko h k c) : Ko (hN h kd) k c := by
  have y1 := hk.1
  refine ⟨by show k < h.1 + 1; omega, ?_⟩
  show (if k = h.1 then kd else h.2.1 k).1 = c + 3
  rw [if_neg (by omega)]
  exact hk.2
theorem Ko.r {h : HD} {k c k' j r : Nat} (hk : Ko h k c) : Ko (uR h k' j r) k c := hk
theorem zs_s (σ : St) (k : Nat) : (zs σ k).1 k = fun _ => 0 := by simp [zs]
theorem zs_n {σ : St} {k i : Nat} (h : i ≠ k) : (zs σ k).1 i = σ.1 i := by simp [zs, h]
theorem A.newIa {G : GW} {rm : Room} {M : MR} {kw mw kv : Nat × Nat} {pc q : Nat} {L : List (Option Value)} {S : List Value} {h : HD} {σ : St} {Q : Option Value → HD → St → Prop} {N a : Nat} (hd : Ix M pc q (.newarray .int) 2) (ha : h.1 = a) (hkw : (kw.1 + 1, kw.2 + N) = kv) (hN9 : N ≤ 1000) (hc : kw.1 + 1 ≤ rm.cells) (hs : kw.2 + N ≤ rm.slots) (kk : A G rm M kv mw q L (rf G a :: S) (hN h (0, N)) (ur σ a (fun _ => 0)) Q) : A G rm M kw mw pc L (.int (nI N) :: S) h σ Q := by
  subst ha hkw
  exact A.newI hd hN9 hc hs kk
theorem A.newJa {G : GW} {rm : Room} {M : MR} {kw mw kv : Nat × Nat} {pc q : Nat} {L : List (Option Value)} {S : List Value} {h : HD} {σ : St} {Q : Option Value → HD → St → Prop} {N a : Nat} (hd : Ix M pc q (.newarray .long) 2) (ha : h.1 = a) (hkw : (kw.1 + 1, kw.2 + N) = kv) (hN9 : N ≤ 1000) (hc : kw.1 + 1 ≤ rm.cells) (hs : kw.2 + N ≤ rm.slots) (kk : A G rm M kv mw q L (rf G a :: S) (hN h (1, N)) (uj σ a (fun _ => 0)) Q) : A G rm M kw mw pc L (.int (nI N) :: S) h σ Q := by
  subst ha hkw
  exact A.newJ hd hN9 hc hs kk
theorem A.newQa {G : GW} {rm : Room} {M : MR} {kw mw kv : Nat × Nat} {pc q : Nat} {L : List (Option Value)} {S : List Value} {h : HD} {σ : St} {Q : Option Value → HD → St → Prop} {N a idx : Nat} (hd : Ix M pc q (.anewarray idx) 3) (hcl : Cond.classLink M.1.cls idx "OwnWeather$Sheet" ∈ gt) (ha : h.1 = a) (hkw : (kw.1 + 1, kw.2 + N) = kv) (hN9 : N ≤ 1000) (hc : kw.1 + 1 ≤ rm.cells) (hs : kw.2 + N ≤ rm.slots) (kk : A G rm M kv mw q L (rf G a :: S) (hN h (2, N)) σ Q) : A G rm M kw mw pc L (.int (nI N) :: S) h σ Q := by
  subst ha hkw
  exact A.newQ hd hcl hN9 hc hs kk
theorem A.newCa {G : GW} {rm : Room} {M : MR} {kw mw kv : Nat × Nat} {pc q : Nat} {L : List (Option Value)} {S : List Value} {h : HD} {σ : St} {Q : Option Value → HD → St → Prop} {ci idx a : Nat} (hd : Ix M pc q (.new idx) 3) (hci : ci < 6) (hcl : Cond.classLink M.1.cls idx (cq ci).1 ∈ gt) (hins : Cond.instantiable (cq ci).1 (cq ci).2.2 ∈ gt) (hini : Cond.initialized (cq ci).1 ∈ gt) (hdf : ∀ j, j < (cq ci).2.2 → ∀ t, parseFieldDescriptor ((cq ci).2.1 j).2.2.1 = some t → defaultValue t = dv (fg ci j)) (ha : h.1 = a) (hkw : (kw.1 + 1, kw.2 + (cq ci).2.2) = kv) (hc : kw.1 + 1 ≤ rm.cells) (hs : kw.2 + (cq ci).2.2 ≤ rm.slots) (kk : A G rm M kv mw q L (rf G a :: S) (hN h (ci + 3, 0)) (zs σ a) Q) : A G rm M kw mw pc L S h σ Q := by
  subst ha hkw
  exact A.newC hd hci hcl hins hini hdf hc hs kk
/-- a constructor's contract -/
def Cn (G : GW) (rm : Room) (M : MR) (mw : Nat × Nat) (As : List Value) (h : HD) (σ : St) (E : HD) (K : St → Prop) : Prop := C G rm M mw As h σ (fun v h' σ' => v = none ∧ h' = E ∧ K σ')
theorem A.cI {G : GW} {rm : Room} {M : MR} {kw mw kv : Nat × Nat} {pc q : Nat} {L : List (Option Value)} {S : List Value} {h : HD} {σ : St} {Q : Option Value → HD → St → Prop} {rm' : Room} {M' : MR} {mw' : Nat × Nat} {n idx k : Nat} {As S0 : List Value} {E : HD} {K : St → Prop} (hd : Ix M pc q (.invokespecial idx) 3) (ok : OkI M' n) (hlk : Cond.methodLink M.1.cls idx M'.1 ∈ gt) (hc : Cn G rm' M' mw' (rf G k :: As) h σ E K) (hE : E.1 = h.1 + mw'.1) (hkw : (kw.1 + mw'.1, kw.2 + mw'.2) = kv) (hret : M'.2.2.2 = none) (hn : As.length = n) (hst : S0 = As.reverse ++ rf G k :: S) (hcat : (S.map (fun v => v.category)).sum ≤ 8) (hr : Rm rm rm' M' kw mw') (kk : ∀ σ', K σ' → A G rm M kv mw q L S E σ' Q) : A G rm M kw mw pc L S0 h σ Q := by
  subst hkw
  refine A.callI hd ok hlk hret hn hst hcat hr hc ?_
  rintro v h' σ' ⟨rfl, rfl, hK⟩
  exact ⟨hE, kk σ' hK⟩
theorem A.eqh {G : GW} {rm : Room} {M : MR} {kw mw kv : Nat × Nat} {pc q : Nat} {L : List (Option Value)} {S : List Value} {h : HD} {σ : St} {Q : Option Value → HD → St → Prop} {h' : HD} (e : h = h') (k : A G rm M kw mw pc L S h' σ Q) : A G rm M kw mw pc L S h σ Q := by rw [e]; exact k
theorem kobX0 : Cond.methodLink RX0 3 Lib.objectInit ∈ gt := gt_o1 23 (by rfl) rfl
theorem kobX1 : Cond.methodLink RX1 3 Lib.objectInit ∈ gt := gt_o1 85 (by rfl) rfl
theorem kobX2 : Cond.methodLink RX2 1 Lib.objectInit ∈ gt := gt_o1 57 (by rfl) rfl
theorem kobX3 : Cond.methodLink RX3 3 Lib.objectInit ∈ gt := gt_o1 104 (by rfl) rfl
theorem kobX4 : Cond.methodLink RX4 3 Lib.objectInit ∈ gt := gt_o1 15 (by rfl) rfl
theorem kobX5 : Cond.methodLink RX5 1 Lib.objectInit ∈ gt := gt_o3 140 (by rfl) rfl
theorem df0 : ∀ j, j < 7 → ∀ t, parseFieldDescriptor ((cq 0).2.1 j).2.2.1 = some t → defaultValue t = dv (fg 0 j) := by
  intro j hj t ht
  have yt : some (tyX0 j) = some t := (tyX0_ok j hj).symm.trans ht
  cases yt
  have y : ∀ i : Fin 7, defaultValue (tyX0 i) = dv (fg 0 i) := by decide +kernel
  exact y ⟨j, hj⟩
theorem df1 : ∀ j, j < 3 → ∀ t, parseFieldDescriptor ((cq 1).2.1 j).2.2.1 = some t → defaultValue t = dv (fg 1 j) := by
  intro j hj t ht
  have yt : some (tyX1 j) = some t := (tyX1_ok j hj).symm.trans ht
  cases yt
  have y : ∀ i : Fin 3, defaultValue (tyX1 i) = dv (fg 1 i) := by decide +kernel
  exact y ⟨j, hj⟩
theorem df2 : ∀ j, j < 4 → ∀ t, parseFieldDescriptor ((cq 2).2.1 j).2.2.1 = some t → defaultValue t = dv (fg 2 j) := by
  intro j hj t ht
  have yt : some (tyX2 j) = some t := (tyX2_ok j hj).symm.trans ht
  cases yt
  have y : ∀ i : Fin 4, defaultValue (tyX2 i) = dv (fg 2 i) := by decide +kernel
  exact y ⟨j, hj⟩
theorem df3 : ∀ j, j < 9 → ∀ t, parseFieldDescriptor ((cq 3).2.1 j).2.2.1 = some t → defaultValue t = dv (fg 3 j) := by
  intro j hj t ht
  have yt : some (tyX3 j) = some t := (tyX3_ok j hj).symm.trans ht
  cases yt
  have y : ∀ i : Fin 9, defaultValue (tyX3 i) = dv (fg 3 i) := by decide +kernel
  exact y ⟨j, hj⟩
theorem df4 : ∀ j, j < 10 → ∀ t, parseFieldDescriptor ((cq 4).2.1 j).2.2.1 = some t → defaultValue t = dv (fg 4 j) := by
  intro j hj t ht
  have yt : some (tyX4 j) = some t := (tyX4_ok j hj).symm.trans ht
  cases yt
  have y : ∀ i : Fin 10, defaultValue (tyX4 i) = dv (fg 4 i) := by decide +kernel
  exact y ⟨j, hj⟩
theorem df5 : ∀ j, j < 25 → ∀ t, parseFieldDescriptor ((cq 5).2.1 j).2.2.1 = some t → defaultValue t = dv (fg 5 j) := by
  intro j hj t ht
  have yt : some (tyX5 j) = some t := (tyX5_ok j hj).symm.trans ht
  cases yt
  have y : ∀ i : Fin 25, defaultValue (tyX5 i) = dv (fg 5 i) := by decide +kernel
  exact y ⟨j, hj⟩
def E0 (h : HD) (k a n : Nat) : HD := uR (hN (uR (hN (uR (hN h (0, 3 * n - 1)) k 1 a) (0, n)) k 2 (a + 1)) (0, n)) k 3 (a + 2)
def E1 (h : HD) (k a : Nat) : HD := uR (hN h (0, 60)) k 0 a
def E2 (h : HD) (k a n : Nat) : HD := uR (hN (uR (hN (uR (hN h (0, n)) k 0 a) (0, n)) k 1 (a + 1)) (0, n)) k 2 (a + 2)
def E3 (h : HD) (k a : Nat) : HD := uR (hN (uR (hN (uR (hN (uR (hN (uR (hN (uR (uR (uR h k 0 1) k 1 5) k 2 9) (0, 192)) k 3 a) (0, 192)) k 4 (a + 1)) (0, 6)) k 5 (a + 2)) (0, 6)) k 6 (a + 3)) (0, 6)) k 7 (a + 4)
theorem cX0_8 {G : GW} {h : HD} {σ : St} {k a : Nat} {t : Nat} (hk : Ko h k 0) (ha : h.1 = a) : Cn G { frames := 1, cells := 3, slots := 39, locals := 20 } mX0_init (3, 39) [rf G k, .int (nI t), .int (nI 8)] h σ (E0 h k a 8) (fun τ => (∀ i, i < a → i ≠ k → τ.1 i = σ.1 i) ∧ τ.1 k 0 = nI t ∧ τ.1 k 4 = nI 0 ∧ τ.1 k 5 = nI 0 ∧ τ.1 k 6 = -1) := by
  subst ha
  refine C.of (L := [some (rf G k), some (.int (nI t)), some (.int (nI 8))]) (by decide) rfl (Nat.le_of_ble_eq_true rfl) ?_
  refine A.al0 eX0_init_0 ?_
  refine A.obj eX0_init_1 kobX0 ⟨Nat.le_of_ble_eq_true rfl, Nat.le_of_ble_eq_true rfl⟩ ?_
  refine A.al0 eX0_init_4 ?_
  refine A.il1 eX0_init_5 ?_
  refine A.putFI eX0_init_6 pX0_9 hk rfl rfl ?_
  refine A.al0 eX0_init_9 ?_
  refine A.iconst (v := nI 3) eX0_init_10 (by decide) ?_
  refine A.il2 eX0_init_11 ?_
  refine A.imulN eX0_init_12 ?_
  refine A.iconst (v := nI 1) eX0_init_13 (by decide) ?_
  refine A.isubN eX0_init_14 ?_
  refine A.newIa (N := 23) (a := h.1) (kv := (1, 23)) eX0_init_15 rfl rfl (Nat.le_of_ble_eq_true rfl) (Nat.le_of_ble_eq_true rfl) (Nat.le_of_ble_eq_true rfl) ?_
  refine A.putFR eX0_init_17 pX0_15 hk.n rfl rfl rfl rfl ?_
  refine A.al0 eX0_init_20 ?_
  refine A.il2 eX0_init_21 ?_
  refine A.newIa (N := 8) (a := h.1 + 1) (kv := (2, 31)) eX0_init_22 rfl rfl (Nat.le_of_ble_eq_true rfl) (Nat.le_of_ble_eq_true rfl) (Nat.le_of_ble_eq_true rfl) ?_
  refine A.putFR eX0_init_24 pX0_19 hk.n.r.n rfl rfl rfl rfl ?_
  refine A.al0 eX0_init_27 ?_
  refine A.il2 eX0_init_28 ?_
  refine A.newIa (N := 8) (a := h.1 + 2) (kv := (3, 39)) eX0_init_29 rfl rfl (Nat.le_of_ble_eq_true rfl) (Nat.le_of_ble_eq_true rfl) (Nat.le_of_ble_eq_true rfl) ?_
  refine A.putFR eX0_init_31 pX0_22 hk.n.r.n.r.n rfl rfl rfl rfl ?_
  refine A.al0 eX0_init_34 ?_
  refine A.iconst (v := nI 0) eX0_init_35 (by decide) ?_
  refine A.putI eX0_init_36 pX0_25 hk.n.r.n.r.n.r ?_
  refine A.al0 eX0_init_39 ?_
  refine A.iconst (v := nI 0) eX0_init_40 (by decide) ?_
  refine A.putI eX0_init_41 pX0_28 hk.n.r.n.r.n.r ?_
  refine A.al0 eX0_init_44 ?_
  refine A.iconst (v := -1) eX0_init_45 (by decide) ?_
  refine A.putI eX0_init_46 pX0_31 hk.n.r.n.r.n.r ?_
  have yk : k < h.1 := hk.1
  refine A.vret eX0_init_49 rfl rfl ⟨rfl, rfl, ?_, ?_, ?_, ?_, ?_⟩
  · intro i y1 y2
    have z0 : i ≠ h.1 := by omega
    have z1 : i ≠ h.1 + 1 := by omega
    have z2 : i ≠ h.1 + 2 := by omega
    simp [ur, y2, z0, z1, z2]
  · have z0 : k ≠ h.1 := by omega
    have z1 : k ≠ h.1 + 1 := by omega
    have z2 : k ≠ h.1 + 2 := by omega
    simp [ur, upd, z0, z1, z2]
  · have z0 : k ≠ h.1 := by omega
    have z1 : k ≠ h.1 + 1 := by omega
    have z2 : k ≠ h.1 + 2 := by omega
    simp [ur, upd, z0, z1, z2]
  · have z0 : k ≠ h.1 := by omega
    have z1 : k ≠ h.1 + 1 := by omega
    have z2 : k ≠ h.1 + 2 := by omega
    simp [ur, upd, z0, z1, z2]
  · have z0 : k ≠ h.1 := by omega
    have z1 : k ≠ h.1 + 1 := by omega
    have z2 : k ≠ h.1 + 2 := by omega
    simp [ur, upd, z0, z1, z2]
theorem cX0_6 {G : GW} {h : HD} {σ : St} {k a : Nat} {t : Nat} (hk : Ko h k 0) (ha : h.1 = a) : Cn G { frames := 1, cells := 3, slots := 29, locals := 20 } mX0_init (3, 29) [rf G k, .int (nI t), .int (nI 6)] h σ (E0 h k a 6) (fun τ => (∀ i, i < a → i ≠ k → τ.1 i = σ.1 i) ∧ τ.1 k 0 = nI t ∧ τ.1 k 4 = nI 0 ∧ τ.1 k 5 = nI 0 ∧ τ.1 k 6 = -1) := by
  subst ha
  refine C.of (L := [some (rf G k), some (.int (nI t)), some (.int (nI 6))]) (by decide) rfl (Nat.le_of_ble_eq_true rfl) ?_
  refine A.al0 eX0_init_0 ?_
  refine A.obj eX0_init_1 kobX0 ⟨Nat.le_of_ble_eq_true rfl, Nat.le_of_ble_eq_true rfl⟩ ?_
  refine A.al0 eX0_init_4 ?_
  refine A.il1 eX0_init_5 ?_
  refine A.putFI eX0_init_6 pX0_9 hk rfl rfl ?_
  refine A.al0 eX0_init_9 ?_
  refine A.iconst (v := nI 3) eX0_init_10 (by decide) ?_
  refine A.il2 eX0_init_11 ?_
  refine A.imulN eX0_init_12 ?_
  refine A.iconst (v := nI 1) eX0_init_13 (by decide) ?_
  refine A.isubN eX0_init_14 ?_
  refine A.newIa (N := 17) (a := h.1) (kv := (1, 17)) eX0_init_15 rfl rfl (Nat.le_of_ble_eq_true rfl) (Nat.le_of_ble_eq_true rfl) (Nat.le_of_ble_eq_true rfl) ?_
  refine A.putFR eX0_init_17 pX0_15 hk.n rfl rfl rfl rfl ?_
  refine A.al0 eX0_init_20 ?_
  refine A.il2 eX0_init_21 ?_
  refine A.newIa (N := 6) (a := h.1 + 1) (kv := (2, 23)) eX0_init_22 rfl rfl (Nat.le_of_ble_eq_true rfl) (Nat.le_of_ble_eq_true rfl) (Nat.le_of_ble_eq_true rfl) ?_
  refine A.putFR eX0_init_24 pX0_19 hk.n.r.n rfl rfl rfl rfl ?_
  refine A.al0 eX0_init_27 ?_
  refine A.il2 eX0_init_28 ?_
  refine A.newIa (N := 6) (a := h.1 + 2) (kv := (3, 29)) eX0_init_29 rfl rfl (Nat.le_of_ble_eq_true rfl) (Nat.le_of_ble_eq_true rfl) (Nat.le_of_ble_eq_true rfl) ?_
  refine A.putFR eX0_init_31 pX0_22 hk.n.r.n.r.n rfl rfl rfl rfl ?_
  refine A.al0 eX0_init_34 ?_
  refine A.iconst (v := nI 0) eX0_init_35 (by decide) ?_
  refine A.putI eX0_init_36 pX0_25 hk.n.r.n.r.n.r ?_
  refine A.al0 eX0_init_39 ?_
  refine A.iconst (v := nI 0) eX0_init_40 (by decide) ?_
  refine A.putI eX0_init_41 pX0_28 hk.n.r.n.r.n.r ?_
  refine A.al0 eX0_init_44 ?_
  refine A.iconst (v := -1) eX0_init_45 (by decide) ?_
  refine A.putI eX0_init_46 pX0_31 hk.n.r.n.r.n.r ?_
  have yk : k < h.1 := hk.1
  refine A.vret eX0_init_49 rfl rfl ⟨rfl, rfl, ?_, ?_, ?_, ?_, ?_⟩
  · intro i y1 y2
    have z0 : i ≠ h.1 := by omega
    have z1 : i ≠ h.1 + 1 := by omega
    have z2 : i ≠ h.1 + 2 := by omega
    simp [ur, y2, z0, z1, z2]
  · have z0 : k ≠ h.1 := by omega
    have z1 : k ≠ h.1 + 1 := by omega
    have z2 : k ≠ h.1 + 2 := by omega
    simp [ur, upd, z0, z1, z2]
  · have z0 : k ≠ h.1 := by omega
    have z1 : k ≠ h.1 + 1 := by omega
    have z2 : k ≠ h.1 + 2 := by omega
    simp [ur, upd, z0, z1, z2]
  · have z0 : k ≠ h.1 := by omega
    have z1 : k ≠ h.1 + 1 := by omega
    have z2 : k ≠ h.1 + 2 := by omega
    simp [ur, upd, z0, z1, z2]
  · have z0 : k ≠ h.1 := by omega
    have z1 : k ≠ h.1 + 1 := by omega
    have z2 : k ≠ h.1 + 2 := by omega
    simp [ur, upd, z0, z1, z2]
theorem cX1 {G : GW} {h : HD} {σ : St} {k a : Nat}  (hk : Ko h k 1) (ha : h.1 = a) : Cn G { frames := 1, cells := 1, slots := 60, locals := 20 } mX1_init (1, 60) [rf G k] h σ (E1 h k a) (fun τ => (∀ i, i < a → i ≠ k → τ.1 i = σ.1 i) ∧ τ.1 k 1 = -1) := by
  subst ha
  refine C.of (L := [some (rf G k)]) (by decide) rfl (Nat.le_of_ble_eq_true rfl) ?_
  refine A.al0 eX1_init_0 ?_
  refine A.obj eX1_init_1 kobX1 ⟨Nat.le_of_ble_eq_true rfl, Nat.le_of_ble_eq_true rfl⟩ ?_
  refine A.al0 eX1_init_4 ?_
  refine A.bipush (v := nI 60) eX1_init_5 (by decide) ?_
  refine A.newIa (N := 60) (a := h.1) (kv := (1, 60)) eX1_init_7 rfl rfl (Nat.le_of_ble_eq_true rfl) (Nat.le_of_ble_eq_true rfl) (Nat.le_of_ble_eq_true rfl) ?_
  refine A.putFR eX1_init_9 pX1_9 hk.n rfl rfl rfl rfl ?_
  refine A.al0 eX1_init_12 ?_
  refine A.iconst (v := -1) eX1_init_13 (by decide) ?_
  refine A.putI eX1_init_14 pX1_15 hk.n.r ?_
  refine A.al0 eX1_init_17 ?_
  refine A.iconst (v := nI 0) eX1_init_18 (by decide) ?_
  refine A.putI eX1_init_19 pX1_19 hk.n.r ?_
  have yk : k < h.1 := hk.1
  refine A.vret eX1_init_22 rfl rfl ⟨rfl, rfl, ?_, ?_⟩
  · intro i y1 y2
    have z0 : i ≠ h.1 := by omega
    simp [ur, y2, z0]
  · have z0 : k ≠ h.1 := by omega
    simp [ur, upd, z0]
theorem cX2_20 {G : GW} {h : HD} {σ : St} {k a : Nat}  (hk : Ko h k 2) (ha : h.1 = a) : Cn G { frames := 1, cells := 3, slots := 60, locals := 20 } mX2_init (3, 60) [rf G k, .int (nI 20)] h σ (E2 h k a 20) (fun τ => (∀ i, i < a → i ≠ k → τ.1 i = σ.1 i) ∧ τ.1 k 3 = nI 0) := by
  subst ha
  refine C.of (L := [some (rf G k), some (.int (nI 20))]) (by decide) rfl (Nat.le_of_ble_eq_true rfl) ?_
  refine A.al0 eX2_init_0 ?_
  refine A.obj eX2_init_1 kobX2 ⟨Nat.le_of_ble_eq_true rfl, Nat.le_of_ble_eq_true rfl⟩ ?_
  refine A.al0 eX2_init_4 ?_
  refine A.il1 eX2_init_5 ?_
  refine A.newIa (N := 20) (a := h.1) (kv := (1, 20)) eX2_init_6 rfl rfl (Nat.le_of_ble_eq_true rfl) (Nat.le_of_ble_eq_true rfl) (Nat.le_of_ble_eq_true rfl) ?_
  refine A.putFR eX2_init_8 pX2_7 hk.n rfl rfl rfl rfl ?_
  refine A.al0 eX2_init_11 ?_
  refine A.il1 eX2_init_12 ?_
  refine A.newIa (N := 20) (a := h.1 + 1) (kv := (2, 40)) eX2_init_13 rfl rfl (Nat.le_of_ble_eq_true rfl) (Nat.le_of_ble_eq_true rfl) (Nat.le_of_ble_eq_true rfl) ?_
  refine A.putFR eX2_init_15 pX2_13 hk.n.r.n rfl rfl rfl rfl ?_
  refine A.al0 eX2_init_18 ?_
  refine A.il1 eX2_init_19 ?_
  refine A.newIa (N := 20) (a := h.1 + 2) (kv := (3, 60)) eX2_init_20 rfl rfl (Nat.le_of_ble_eq_true rfl) (Nat.le_of_ble_eq_true rfl) (Nat.le_of_ble_eq_true rfl) ?_
  refine A.putFR eX2_init_22 pX2_16 hk.n.r.n.r.n rfl rfl rfl rfl ?_
  refine A.al0 eX2_init_25 ?_
  refine A.iconst (v := nI 0) eX2_init_26 (by decide) ?_
  refine A.putI eX2_init_27 pX2_19 hk.n.r.n.r.n.r ?_
  have yk : k < h.1 := hk.1
  refine A.vret eX2_init_30 rfl rfl ⟨rfl, rfl, ?_, ?_⟩
  · intro i y1 y2
    have z0 : i ≠ h.1 := by omega
    have z1 : i ≠ h.1 + 1 := by omega
    have z2 : i ≠ h.1 + 2 := by omega
    simp [ur, y2, z0, z1, z2]
  · have z0 : k ≠ h.1 := by omega
    have z1 : k ≠ h.1 + 1 := by omega
    have z2 : k ≠ h.1 + 2 := by omega
    simp [ur, upd, z0, z1, z2]
theorem cX2_8 {G : GW} {h : HD} {σ : St} {k a : Nat}  (hk : Ko h k 2) (ha : h.1 = a) : Cn G { frames := 1, cells := 3, slots := 24, locals := 20 } mX2_init (3, 24) [rf G k, .int (nI 8)] h σ (E2 h k a 8) (fun τ => (∀ i, i < a → i ≠ k → τ.1 i = σ.1 i) ∧ τ.1 k 3 = nI 0) := by
  subst ha
  refine C.of (L := [some (rf G k), some (.int (nI 8))]) (by decide) rfl (Nat.le_of_ble_eq_true rfl) ?_
  refine A.al0 eX2_init_0 ?_
  refine A.obj eX2_init_1 kobX2 ⟨Nat.le_of_ble_eq_true rfl, Nat.le_of_ble_eq_true rfl⟩ ?_
  refine A.al0 eX2_init_4 ?_
  refine A.il1 eX2_init_5 ?_
  refine A.newIa (N := 8) (a := h.1) (kv := (1, 8)) eX2_init_6 rfl rfl (Nat.le_of_ble_eq_true rfl) (Nat.le_of_ble_eq_true rfl) (Nat.le_of_ble_eq_true rfl) ?_
  refine A.putFR eX2_init_8 pX2_7 hk.n rfl rfl rfl rfl ?_
  refine A.al0 eX2_init_11 ?_
  refine A.il1 eX2_init_12 ?_
  refine A.newIa (N := 8) (a := h.1 + 1) (kv := (2, 16)) eX2_init_13 rfl rfl (Nat.le_of_ble_eq_true rfl) (Nat.le_of_ble_eq_true rfl) (Nat.le_of_ble_eq_true rfl) ?_
  refine A.putFR eX2_init_15 pX2_13 hk.n.r.n rfl rfl rfl rfl ?_
  refine A.al0 eX2_init_18 ?_
  refine A.il1 eX2_init_19 ?_
  refine A.newIa (N := 8) (a := h.1 + 2) (kv := (3, 24)) eX2_init_20 rfl rfl (Nat.le_of_ble_eq_true rfl) (Nat.le_of_ble_eq_true rfl) (Nat.le_of_ble_eq_true rfl) ?_
  refine A.putFR eX2_init_22 pX2_16 hk.n.r.n.r.n rfl rfl rfl rfl ?_
  refine A.al0 eX2_init_25 ?_
  refine A.iconst (v := nI 0) eX2_init_26 (by decide) ?_
  refine A.putI eX2_init_27 pX2_19 hk.n.r.n.r.n.r ?_
  have yk : k < h.1 := hk.1
  refine A.vret eX2_init_30 rfl rfl ⟨rfl, rfl, ?_, ?_⟩
  · intro i y1 y2
    have z0 : i ≠ h.1 := by omega
    have z1 : i ≠ h.1 + 1 := by omega
    have z2 : i ≠ h.1 + 2 := by omega
    simp [ur, y2, z0, z1, z2]
  · have z0 : k ≠ h.1 := by omega
    have z1 : k ≠ h.1 + 1 := by omega
    have z2 : k ≠ h.1 + 2 := by omega
    simp [ur, upd, z0, z1, z2]
theorem cX3 {G : GW} {h : HD} {σ : St} {k a : Nat}  (hk : Ko h k 3) (ha : h.1 = a) : Cn G { frames := 1, cells := 5, slots := 402, locals := 20 } mX3_init (5, 402) [rf G k, rf G 1, rf G 5, rf G 9] h σ (E3 h k a) (fun τ => (∀ i, i < a → i ≠ k → τ.1 i = σ.1 i)) := by
  subst ha
  refine C.of (L := [some (rf G k), some (rf G 1), some (rf G 5), some (rf G 9)]) (by decide) rfl (Nat.le_of_ble_eq_true rfl) ?_
  refine A.al0 eX3_init_0 ?_
  refine A.obj eX3_init_1 kobX3 ⟨Nat.le_of_ble_eq_true rfl, Nat.le_of_ble_eq_true rfl⟩ ?_
  refine A.al0 eX3_init_4 ?_
  refine A.al1 eX3_init_5 ?_
  refine A.putFR eX3_init_6 pX3_9 hk rfl rfl rfl rfl ?_
  refine A.al0 eX3_init_9 ?_
  refine A.al2 eX3_init_10 ?_
  refine A.putFR eX3_init_11 pX3_15 hk.r rfl rfl rfl rfl ?_
  refine A.al0 eX3_init_14 ?_
  refine A.al3 eX3_init_15 ?_
  refine A.putFR eX3_init_16 pX3_18 hk.r.r rfl rfl rfl rfl ?_
  refine A.al0 eX3_init_19 ?_
  refine A.sipush (v := nI 192) eX3_init_20 (by decide) ?_
  refine A.newIa (N := 192) (a := h.1) (kv := (1, 192)) eX3_init_23 rfl rfl (Nat.le_of_ble_eq_true rfl) (Nat.le_of_ble_eq_true rfl) (Nat.le_of_ble_eq_true rfl) ?_
  refine A.putFR eX3_init_25 pX3_22 hk.r.r.r.n rfl rfl rfl rfl ?_
  refine A.al0 eX3_init_28 ?_
  refine A.sipush (v := nI 192) eX3_init_29 (by decide) ?_
  refine A.newIa (N := 192) (a := h.1 + 1) (kv := (2, 384)) eX3_init_32 rfl rfl (Nat.le_of_ble_eq_true rfl) (Nat.le_of_ble_eq_true rfl) (Nat.le_of_ble_eq_true rfl) ?_
  refine A.putFR eX3_init_34 pX3_26 hk.r.r.r.n.r.n rfl rfl rfl rfl ?_
  refine A.al0 eX3_init_37 ?_
  refine A.bipush (v := nI 6) eX3_init_38 (by decide) ?_
  refine A.newIa (N := 6) (a := h.1 + 2) (kv := (3, 390)) eX3_init_40 rfl rfl (Nat.le_of_ble_eq_true rfl) (Nat.le_of_ble_eq_true rfl) (Nat.le_of_ble_eq_true rfl) ?_
  refine A.putFR eX3_init_42 pX3_29 hk.r.r.r.n.r.n.r.n rfl rfl rfl rfl ?_
  refine A.al0 eX3_init_45 ?_
  refine A.bipush (v := nI 6) eX3_init_46 (by decide) ?_
  refine A.newIa (N := 6) (a := h.1 + 3) (kv := (4, 396)) eX3_init_48 rfl rfl (Nat.le_of_ble_eq_true rfl) (Nat.le_of_ble_eq_true rfl) (Nat.le_of_ble_eq_true rfl) ?_
  refine A.putFR eX3_init_50 pX3_32 hk.r.r.r.n.r.n.r.n.r.n rfl rfl rfl rfl ?_
  refine A.al0 eX3_init_53 ?_
  refine A.bipush (v := nI 6) eX3_init_54 (by decide) ?_
  refine A.newIa (N := 6) (a := h.1 + 4) (kv := (5, 402)) eX3_init_56 rfl rfl (Nat.le_of_ble_eq_true rfl) (Nat.le_of_ble_eq_true rfl) (Nat.le_of_ble_eq_true rfl) ?_
  refine A.putFR eX3_init_58 pX3_35 hk.r.r.r.n.r.n.r.n.r.n.r.n rfl rfl rfl rfl ?_
  refine A.al0 eX3_init_61 ?_
  refine A.bipush (v := nI 23) eX3_init_62 (by decide) ?_
  refine A.putI eX3_init_64 pX3_38 hk.r.r.r.n.r.n.r.n.r.n.r.n.r ?_
  have yk : k < h.1 := hk.1
  refine A.vret eX3_init_67 rfl rfl ⟨rfl, rfl, ?_⟩
  · intro i y1 y2
    have z0 : i ≠ h.1 := by omega
    have z1 : i ≠ h.1 + 1 := by omega
    have z2 : i ≠ h.1 + 2 := by omega
    have z3 : i ≠ h.1 + 3 := by omega
    have z4 : i ≠ h.1 + 4 := by omega
    simp [ur, y2, z0, z1, z2, z3, z4]
