/-! ===== the instances: two valleys, two listings, three told rows, four sheets ===== -/
def Vv (v : Nat) : Prop := v = 30 ∨ v = 36
def Vu (u : Nat) : Prop := u = 1 ∨ u = 5
def Vt (t : Nat) : Prop := t = 9 ∨ t = 13 ∨ t = 17
def Vs (s : Nat) : Prop := s = 22 ∨ s = 24 ∨ s = 26 ∨ s = 28
def lb (u : Nat) : Nat := if u = 1 then 23 else 17
def lm (u : Nat) : Nat := if u = 1 then 8 else 6
def tl (t : Nat) : Nat := if t = 9 then 20 else 8
theorem lb_le (u : Nat) : 17 ≤ lb u ∧ lb u ≤ 23 ∧ lb u + 1 = 3 * lm u := by unfold lb lm; split <;> omega
theorem lm_le (u : Nat) : 6 ≤ lm u ∧ lm u ≤ 8 := by unfold lm; split <;> omega
theorem tl_le (t : Nat) : 8 ≤ tl t ∧ tl t ≤ 20 := by unfold tl; split <;> omega
theorem kvo {v : Nat} (h : Vv v) : Ko hd0 v 3 := by rcases h with rfl | rfl <;> exact ⟨by decide, rfl⟩
theorem kuo {u : Nat} (h : Vu u) : Ko hd0 u 0 := by rcases h with rfl | rfl <;> exact ⟨by decide, rfl⟩
theorem kto {t : Nat} (h : Vt t) : Ko hd0 t 2 := by rcases h with rfl | rfl | rfl <;> exact ⟨by decide, rfl⟩
theorem kso {s : Nat} (h : Vs s) : Ko hd0 s 1 := by rcases h with rfl | rfl | rfl | rfl <;> exact ⟨by decide, rfl⟩
theorem kv1 {v : Nat} (h : Vv v) : Ka hd0 (v + 1) 192 := by rcases h with rfl | rfl <;> exact ⟨by decide, rfl⟩
theorem kv2 {v : Nat} (h : Vv v) : Ka hd0 (v + 2) 192 := by rcases h with rfl | rfl <;> exact ⟨by decide, rfl⟩
theorem kv3 {v : Nat} (h : Vv v) : Ka hd0 (v + 3) 6 := by rcases h with rfl | rfl <;> exact ⟨by decide, rfl⟩
theorem kv4 {v : Nat} (h : Vv v) : Ka hd0 (v + 4) 6 := by rcases h with rfl | rfl <;> exact ⟨by decide, rfl⟩
theorem kv5 {v : Nat} (h : Vv v) : Ka hd0 (v + 5) 6 := by rcases h with rfl | rfl <;> exact ⟨by decide, rfl⟩
theorem ku1 {u : Nat} (h : Vu u) : Ka hd0 (u + 1) (lb u) := by rcases h with rfl | rfl <;> exact ⟨by decide, rfl⟩
theorem ku2 {u : Nat} (h : Vu u) : Ka hd0 (u + 2) (lm u) := by rcases h with rfl | rfl <;> exact ⟨by decide, rfl⟩
theorem ku3 {u : Nat} (h : Vu u) : Ka hd0 (u + 3) (lm u) := by rcases h with rfl | rfl <;> exact ⟨by decide, rfl⟩
theorem kt1 {t : Nat} (h : Vt t) : Ka hd0 (t + 1) (tl t) := by rcases h with rfl | rfl | rfl <;> exact ⟨by decide, rfl⟩
theorem kt2 {t : Nat} (h : Vt t) : Ka hd0 (t + 2) (tl t) := by rcases h with rfl | rfl | rfl <;> exact ⟨by decide, rfl⟩
theorem kt3 {t : Nat} (h : Vt t) : Ka hd0 (t + 3) (tl t) := by rcases h with rfl | rfl | rfl <;> exact ⟨by decide, rfl⟩
theorem ks1 {s : Nat} (h : Vs s) : Ka hd0 (s + 1) 60 := by rcases h with rfl | rfl | rfl | rfl <;> exact ⟨by decide, rfl⟩
theorem kvr0 {v : Nat} (h : Vv v) : hd0.2.2 v 0 = some 1 := by rcases h with rfl | rfl <;> rfl
theorem kvr1 {v : Nat} (h : Vv v) : hd0.2.2 v 1 = some 5 := by rcases h with rfl | rfl <;> rfl
theorem kvr2 {v : Nat} (h : Vv v) : hd0.2.2 v 2 = some 9 := by rcases h with rfl | rfl <;> rfl
theorem kvr3 {v : Nat} (h : Vv v) : hd0.2.2 v 3 = some (v + 1) := by rcases h with rfl | rfl <;> rfl
theorem kvr4 {v : Nat} (h : Vv v) : hd0.2.2 v 4 = some (v + 2) := by rcases h with rfl | rfl <;> rfl
theorem kvr5 {v : Nat} (h : Vv v) : hd0.2.2 v 5 = some (v + 3) := by rcases h with rfl | rfl <;> rfl
theorem kvr6 {v : Nat} (h : Vv v) : hd0.2.2 v 6 = some (v + 4) := by rcases h with rfl | rfl <;> rfl
theorem kvr7 {v : Nat} (h : Vv v) : hd0.2.2 v 7 = some (v + 5) := by rcases h with rfl | rfl <;> rfl
theorem kur1 {u : Nat} (h : Vu u) : hd0.2.2 u 1 = some (u + 1) := by rcases h with rfl | rfl <;> rfl
theorem kur2 {u : Nat} (h : Vu u) : hd0.2.2 u 2 = some (u + 2) := by rcases h with rfl | rfl <;> rfl
theorem kur3 {u : Nat} (h : Vu u) : hd0.2.2 u 3 = some (u + 3) := by rcases h with rfl | rfl <;> rfl
theorem ktr0 {t : Nat} (h : Vt t) : hd0.2.2 t 0 = some (t + 1) := by rcases h with rfl | rfl | rfl <;> rfl
theorem ktr1 {t : Nat} (h : Vt t) : hd0.2.2 t 1 = some (t + 2) := by rcases h with rfl | rfl | rfl <;> rfl
theorem ktr2 {t : Nat} (h : Vt t) : hd0.2.2 t 2 = some (t + 3) := by rcases h with rfl | rfl | rfl <;> rfl
theorem ksr0 {s : Nat} (h : Vs s) : hd0.2.2 s 0 = some (s + 1) := by rcases h with rfl | rfl | rfl | rfl <;> rfl
theorem ur_s (σ : St) (k : Nat) (f : Nat → Int32) : (ur σ k f).1 k = f := by simp [ur]
theorem ur_n {σ : St} {k k' : Nat} {f : Nat → Int32} (h : k' ≠ k) : (ur σ k f).1 k' = σ.1 k' := by simp [ur, h]
theorem ur_2 (σ : St) (k : Nat) (f : Nat → Int32) : (ur σ k f).2 = σ.2 := rfl
theorem ur_ur (σ : St) (k : Nat) (f g : Nat → Int32) : ur (ur σ k f) k g = ur σ k g := by
  unfold ur
  simp only [Prod.mk.injEq, and_true]
  funext k'
  split <;> simp_all
theorem ur_id (σ : St) (k : Nat) : ur σ k (σ.1 k) = σ := by
  unfold ur
  apply Prod.ext
  · funext k'
    dsimp only
    split
    · next h => rw [h]
    · rfl
  · rfl
theorem upd_s (f : Nat → Int32) (j : Nat) (x : Int32) : upd f j x j = x := by simp [upd]
theorem upd_n {f : Nat → Int32} {j i : Nat} {x : Int32} (h : i ≠ j) : upd f j x i = f i := by simp [upd, h]
section
variable {G : GW} {rm : Room} {M : MR} {pc q idx : Nat} {L : List (Option Value)} {S : List Value} {h : HD} {σ : St} {Q : Option Value → HD → St → Prop}
theorem A.mmax {x y : Int32} (hd : Ix M pc q (.invokestatic idx) 3) (hlk : Cond.methodLink M.1.cls idx yJ9_max_7cf53 ∈ gt) (k : A G rm M (0, 0) (0, 0) q L (.int (if x < y then y else x) :: S) h σ Q) (hr : 1 ≤ rm.frames ∧ (S.map (fun v => v.category)).sum + 13 ≤ rm.locals := by exact ⟨Nat.le_of_ble_eq_true rfl, Nat.le_of_ble_eq_true rfl⟩) : A G rm M (0, 0) (0, 0) pc L (.int y :: .int x :: S) h σ Q := by
  intro p e s m args below meth c ls H locs C hl hP hz hS
  obtain ⟨hd, rfl⟩ := hd
  have hts := C.2.2.2.2.2.2.2.1
  exact va_mmax C.1 C.2.1 (by rw [C.2.2.1, hl.1]) C.2.2.2.2.2.2.1 (hts _ hlk) (hts _ oJ9_max_7cf53.2) (hts _ oJ9_max_7cf53.1.2.1) (hts _ oJ9_max_7cf53.1.1) hr.1 hr.2 (Nat.zero_le _) (Nat.zero_le _) hd (k p e s m args below meth c ls H locs C hl hP hz hS)
theorem A.mmin {x y : Int32} (hd : Ix M pc q (.invokestatic idx) 3) (hlk : Cond.methodLink M.1.cls idx yJ9_min_7cf53 ∈ gt) (k : A G rm M (0, 0) (0, 0) q L (.int (if y < x then y else x) :: S) h σ Q) (hr : 1 ≤ rm.frames ∧ (S.map (fun v => v.category)).sum + 13 ≤ rm.locals := by exact ⟨Nat.le_of_ble_eq_true rfl, Nat.le_of_ble_eq_true rfl⟩) : A G rm M (0, 0) (0, 0) pc L (.int y :: .int x :: S) h σ Q := by
  intro p e s m args below meth c ls H locs C hl hP hz hS
  obtain ⟨hd, rfl⟩ := hd
  have hts := C.2.2.2.2.2.2.2.1
  exact va_mmin C.1 C.2.1 (by rw [C.2.2.1, hl.1]) C.2.2.2.2.2.2.1 (hts _ hlk) (hts _ oJ9_min_7cf53.2) (hts _ oJ9_min_7cf53.1.2.1) (hts _ oJ9_min_7cf53.1.1) hr.1 hr.2 (Nat.zero_le _) (Nat.zero_le _) hd (k p e s m args below meth c ls H locs C hl hP hz hS)
theorem A.mminN {a b : Nat} (hd : Ix M pc q (.invokestatic idx) 3) (hlk : Cond.methodLink M.1.cls idx yJ9_min_7cf53 ∈ gt) (k : A G rm M (0, 0) (0, 0) q L (.int (nI (min a b)) :: S) h σ Q) (ha : a < 2147483648 := by omega) (hb : b < 2147483648 := by omega) (hr : 1 ≤ rm.frames ∧ (S.map (fun v => v.category)).sum + 13 ≤ rm.locals := by exact ⟨Nat.le_of_ble_eq_true rfl, Nat.le_of_ble_eq_true rfl⟩) : A G rm M (0, 0) (0, 0) pc L (.int (nI b) :: .int (nI a) :: S) h σ Q := by
  refine A.mmin hd hlk ?_ hr
  have e : (if nI b < nI a then nI b else nI a) = nI (min a b) := by
    by_cases h : b < a
    · rw [if_pos ((nI_ltI (by omega) (by omega)).mpr h), Nat.min_eq_right (by omega)]
    · rw [if_neg (fun z => h ((nI_ltI (by omega) (by omega)).mp z)), Nat.min_eq_left (by omega)]
  rw [e]; exact k
end
section
variable {G : GW} {rm : Room} {M : MR} {kw mw : Nat × Nat} {pc t len : Nat} {L : List (Option Value)} {S : List Value} {h : HD} {σ : St} {Q : Option Value → HD → St → Prop}
theorem A.lookup {x : Int32} {dflt off : Int} {ps : Array (Int × Int)} (hd : decode M.2.1 pc = .ok (.lookupswitch dflt ps, len)) (hp : (ps.toList.zip (ps.toList.drop 1)).all (fun (a, next) => a.1 < next.1) = true) (ho : Op.lookupswitch.offset ps.toList dflt x.toInt = off) (ht : (pc : Int) + off = (t : Int)) (k : A G rm M kw mw t L S h σ Q) : A G rm M kw mw pc L (.int x :: S) h σ Q := by
  intro p e s m args below meth c ls H locs C hl hP hz hS
  exact lv_lookup C.1 C.2.1 hd hp ho ht (k p e s m args below meth c ls H locs C hl hP hz hS)
theorem A.tableIn {x : Int32} {dflt lo hi off : Int} {offs : Array Int} (hd : decode M.2.1 pc = .ok (.tableswitch dflt lo hi offs, len)) (h1 : ¬ x.toInt < lo) (h2 : ¬ hi < x.toInt) (ho : offs[(x.toInt - lo).toNat]? = some off) (ht : (pc : Int) + off = (t : Int)) (k : A G rm M kw mw t L S h σ Q) : A G rm M kw mw pc L (.int x :: S) h σ Q := by
  intro p e s m args below meth c ls H locs C hl hP hz hS
  exact lv_tableIn C.1 C.2.1 hd h1 h2 ho ht (k p e s m args below meth c ls H locs C hl hP hz hS)
theorem A.tableOut {x : Int32} {dflt lo hi : Int} {offs : Array Int} (hd : decode M.2.1 pc = .ok (.tableswitch dflt lo hi offs, len)) (ho : x.toInt < lo ∨ hi < x.toInt) (ht : (pc : Int) + dflt = (t : Int)) (k : A G rm M kw mw t L S h σ Q) : A G rm M kw mw pc L (.int x :: S) h σ Q := by
  intro p e s m args below meth c ls H locs C hl hP hz hS
  exact lv_tableOut C.1 C.2.1 hd ho ht (k p e s m args below meth c ls H locs C hl hP hz hS)
end
