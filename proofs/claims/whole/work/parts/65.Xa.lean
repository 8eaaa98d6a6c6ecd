/-! the reference reads a question -/
set_option maxRecDepth 100000 in
def zq_kset (k : Int) : Prop := (300 ≤ k ∧ k ≤ 307) ∨ (37 ≤ k ∧ k ≤ 125)
set_option maxRecDepth 100000 in
theorem zq_tK_set (T : Int → Int) (n p : Int) : zq_kset (zq_tK T n p) := by
  have e1 : zq_tK T n p = (zq_tokA T n (zq_tA T n p) (ll 0)).1 := rfl
  generalize zq_tA T n p = a at *
  rw [e1]
  unfold zq_kset
  by_cases c1 : T a = -1
  · rw [zq_tokA_fin c1]; left; simp only; omega
  by_cases c2 : zq_dgB (T a) = true
  · rw [zq_tokA_dig c1 c2]
    have g := (zq_nr_ge T (n - a).toNat a (ll 0)).2.2
    have e : (zq_nrn T n a (ll 0)).1 = (zq_nr T (n - a).toNat a (ll 0)).1 := rfl
    omega
  simp at c2
  by_cases c3 : zq_nmB (T a) = true
  · rw [zq_tokA_nam c1 c2 c3]; left; simp only; omega
  simp at c3
  by_cases c4 : T a = 34
  · rw [zq_tokA_quo c4]; simp only; left; split <;> omega
  · rw [zq_tokA_sig c1 c2 c3 c4]; simp only; unfold zq_sgK
    split
    · split
      · omega
      · split <;> omega
    · split
      · split <;> omega
      · split <;> omega
set_option maxRecDepth 100000 in
theorem zq_mk_iff {k : Int} (h : zq_kset k) : (zq_mk k = 0 ↔ k = 301) ∧ (zq_mk k = 1 ↔ k = 302) ∧ (zq_mk k = 2 ↔ k = 303) ∧ (zq_mk k = 3 ↔ k = 304) ∧ (∀ v, 37 ≤ v → v ≤ 125 → (zq_mk k = v ↔ k = v)) ∧ (256 ≤ zq_mk k ↔ k = 305 ∨ k = 306 ∨ k = 307 ∨ k = 300) ∧ (0 ≤ zq_mk k ∧ zq_mk k ≤ 400) := by
  unfold zq_kset at h
  unfold zq_mk
  by_cases h1 : k = 301
  · simp [h1]; intro v _ _; omega
  by_cases h2 : k = 302
  · simp [h2]; intro v _ _; omega
  by_cases h3 : k = 303
  · simp [h3]; intro v _ _; omega
  by_cases h4 : k = 304
  · simp [h4]; intro v _ _; omega
  by_cases h5 : k = 305
  · simp [h5]; intro v _ _; omega
  by_cases h6 : k = 306
  · simp [h6]; intro v _ _; omega
  by_cases h7 : k = 307
  · simp [h7]; intro v _ _; omega
  rw [if_neg h1, if_neg h2, if_neg h3, if_neg h4, if_neg h5, if_neg h6, if_neg h7]
  refine ⟨by omega, by omega, by omega, by omega, fun v _ _ => Iff.rfl, by omega, by omega⟩
set_option maxRecDepth 100000 in
/-- what a question never changes -/
def zq_kf (M : MS) := (M.m_tape, M.m_length, M.m_seriesCount, M.m_texts, M.m_textLengths, M.m_lasts, M.m_points, M.m_pointSeries, M.m_pointTimes, M.m_pointValues, M.m_places, M.m_head, M.m_parcels, M.m_scars, M.m_horizon, M.m_code, M.m_windows, M.m_width, M.m_windowsFrom, M.m_isTable, M.m_works, M.m_starts 0)
set_option maxRecDepth 100000 in
/-- what the reading changes -/
def zq_pl (M : MS) := (M.m_kind, M.m_from, M.m_to, M.m_amount, M.m_signs, M.m_signPlaces, M.m_signCount, M.m_open, M.m_wants)
set_option maxRecDepth 100000 in
def zq_KF (M M' : MS) : Prop := zq_kf M' = zq_kf M
set_option maxRecDepth 100000 in
theorem zq_KF_sta {M X : MS} (h : zq_KF M X) {P y : Int} {s : Int → Int} (hs : s 0 = M.m_starts 0) (hP : 0 ≤ P) : zq_KF M (MS.w_m_starts X (aU s (P + 1) y)) := by
  unfold zq_KF zq_kf at *
  simp only [Prod.mk.injEq] at h ⊢
  obtain ⟨k1, k2, k3, k4, k5, k6, k7, k8, k9, k10, k11, k12, k13, k14, k15, k16, k17, k18, k19, k20, k21, k22⟩ := h
  refine ⟨k1, k2, k3, k4, k5, k6, k7, k8, k9, k10, k11, k12, k13, k14, k15, k16, k17, k18, k19, k20, k21, ?_⟩
  show aU s (P + 1) y 0 = _
  rw [zq_aU_ne _ _ _ _ (by omega)]; exact hs
set_option maxRecDepth 100000 in
def zq_MB (T : Int → Int) (n w : Int) (M : MS) : Prop := zq_moI M ∧ zq_mby M = T ∧ M.m_length = n ∧ n ≤ 10240 ∧ (M.m_faultCode = 0 ∧ M.m_faultPlace = 0) ∧ M.m_works = w ∧ (w = 0 ∨ w = 1)
set_option maxRecDepth 100000 in
def zq_MP (T : Int → Int) (n : Int) (M : MS) (p : Int) : Prop := (0 ≤ p ∧ p ≤ n ∧ zq_tK T n p ≠ 300) ∧ (M.m_kind = zq_mk (zq_tK T n p) ∧ M.m_from = zq_tA T n p ∧ M.m_to = zq_tB T n p ∧ (zq_tK T n p = 302 → M.m_amount = zq_tX T n p))
set_option maxRecDepth 100000 in
/-- an answer that is a fault -/
def zq_FL (M : MS) (e : zq_PE) (X : Option (Int × MS)) : Prop := ∃ M', X = some (0, M') ∧ M'.m_faultCode = e.1 ∧ M'.m_faultPlace = e.2 ∧ zq_KF M M'
set_option maxRecDepth 100000 in
theorem zq_FL_KF {M M1 : MS} {e : zq_PE} {X : Option (Int × MS)} (h : zq_FL M1 e X) (hk : zq_KF M M1) : zq_FL M e X := by
  obtain ⟨M', h1, h2, h3, h4⟩ := h
  exact ⟨M', h1, h2, h3, by unfold zq_KF at *; rw [h4, hk]⟩
set_option maxRecDepth 100000 in
theorem zq_FL_eq {M : MS} {e : zq_PE} {X Y : Option (Int × MS)} (h : zq_FL M e X) (hk : Y = X) : zq_FL M e Y := by rw [hk]; exact h
set_option maxRecDepth 100000 in
/-- a fault is passed on -/
theorem zq_FL_bind {M : MS} {e : zq_PE} {X : Option (Int × MS)} {f : Int → MS → Option (Int × MS)} (h : zq_FL M e X) (hf : ∀ S, f 0 S = some (0, S)) : zq_FL M e (mb2 X f) := by
  obtain ⟨M', h1, h2, h3, h4⟩ := h
  exact ⟨M', by rw [h1]; exact hf M', h2, h3, h4⟩
set_option maxRecDepth 100000 in
theorem zq_MB_T {T : Int → Int} {n w : Int} {M : MS} (h : zq_MB T n w M) : zq_tpT T n := by
  rw [← h.2.1, ← h.2.2.1]; exact zq_mby_T h.1
set_option maxRecDepth 100000 in
theorem zq_r_flaw {M : MS} (h : M.m_faultCode = 0) (a b : Int) : zq_FL M (a, b) (s_Mo_flaw M a b) := ⟨_, zq_e_flaw a b h, rfl, rfl, rfl⟩
set_option maxRecDepth 100000 in
theorem zq_f01 : ∀ S : MS, (fun (r : Int) (S : MS) => if r = 0 ∨ r = 1 then some (r, S) else none) 0 S = some (0, S) := fun S => if_pos (Or.inl rfl)
set_option maxRecDepth 100000 in
theorem zq_r_flaw2 {M : MS} (h : M.m_faultCode = 0) (a b : Int) : zq_FL M (a, b) (mb2 (s_Mo_flaw M a b) (fun r S => if r = 0 ∨ r = 1 then some (r, S) else none)) := zq_FL_bind (zq_r_flaw h a b) zq_f01
set_option maxRecDepth 100000 in
theorem zq_r_next {T : Int → Int} {n w : Int} {M : MS} {p : Int} (h : zq_MB T n w M) (hp : zq_MP T n M p) : (∀ q, zq_pAdv T n p = .ok q → ∃ x, s_Mo_next M = some (1, zq_mxs M (zq_mk (zq_tK T n q)) (zq_tA T n q) (zq_tB T n q) x) ∧ zq_MP T n (zq_mxs M (zq_mk (zq_tK T n q)) (zq_tA T n q) (zq_tB T n q) x) q ∧ q = zq_tB T n p) ∧ (∀ e, zq_pAdv T n p = .error e → zq_FL M e (s_Mo_next M)) := by
  have hT := zq_MB_T h
  obtain ⟨h1, h2, h3, h4, h5, h6⟩ := h
  obtain ⟨⟨l1, l2, l3⟩, l4, l5, l6, l7⟩ := hp
  have R := zq_tok_R hT l1 l2
  have hb : 0 ≤ zq_tB T n p ∧ zq_tB T n p ≤ n := by
    have := zq_tA_ge T n p
    by_cases c1 : zq_tK T n p = 301
    · have := R.1 c1; omega
    · have := R.2.1 c1; have := this.2.2 l3; omega
  have e := zq_e_next h1 (by omega) (by omega) h5.1
  rw [h2, h3, l6] at e
  have q := zq_tok_x T n (zq_tB T n p) M.m_amount
  unfold zq_pAdv
  by_cases c2 : zq_tK T n (zq_tB T n p) = 300
  · rw [if_pos c2]
    refine ⟨(fun q h => by cases h), fun e' he => ?_⟩
    cases he
    obtain ⟨k', t', x', e2⟩ := e.2 (by rw [q.1]; exact c2)
    exact ⟨_, e2, rfl, rfl, rfl⟩
  · rw [if_neg c2]
    refine ⟨fun q' h => ?_, fun e' he => by cases he⟩
    cases h
    have e2 := e.1 (by rw [q.1]; exact c2)
    rw [q.1, q.2.1] at e2
    exact ⟨_, e2, ⟨⟨hb.1, hb.2, c2⟩, rfl, rfl, rfl, q.2.2⟩, rfl⟩
set_option maxRecDepth 100000 in
theorem zq_MB_mxs {T : Int → Int} {n w : Int} {M : MS} (h : zq_MB T n w M) (k f t : Int) (x : Int64) : zq_MB T n w (zq_mxs M k f t x) := h
set_option maxRecDepth 100000 in
/-- next, and its answer handed on -/
theorem zq_r_next2 {T : Int → Int} {n w : Int} {M : MS} {p : Int} (h : zq_MB T n w M) (hp : zq_MP T n M p) : (∀ q, zq_pAdv T n p = .ok q → ∃ x, mb2 (s_Mo_next M) (fun r S => if r = 0 ∨ r = 1 then some (r, S) else none) = some (1, zq_mxs M (zq_mk (zq_tK T n q)) (zq_tA T n q) (zq_tB T n q) x) ∧ zq_MP T n (zq_mxs M (zq_mk (zq_tK T n q)) (zq_tA T n q) (zq_tB T n q) x) q ∧ q = zq_tB T n p) ∧ (∀ e, zq_pAdv T n p = .error e → zq_FL M e (mb2 (s_Mo_next M) (fun r S => if r = 0 ∨ r = 1 then some (r, S) else none))) := by
  obtain ⟨a, b⟩ := zq_r_next h hp
  refine ⟨fun q hq => ?_, fun e he => zq_FL_bind (b e he) zq_f01⟩
  obtain ⟨x, e1, e2, e3⟩ := a q hq
  exact ⟨x, by rw [zq_mb2_eq e1]; rfl, e2, e3⟩
set_option maxRecDepth 100000 in
/-- a token that must be there: its number in the reference is v' -/
theorem zq_r_need {T : Int → Int} {n w : Int} {M : MS} {p : Int} (h : zq_MB T n w M) (hp : zq_MP T n M p) {v v' : Int} (hv : zq_mk v = v') (hv2 : zq_mk (zq_tK T n p) = v' ↔ zq_tK T n p = v) (hv3 : 0 ≤ v' ∧ v' ≤ 400) : (∀ q, zq_pTake T n v p = .ok q → ∃ x, s_Mo_need M v' = some (1, zq_mxs M (zq_mk (zq_tK T n q)) (zq_tA T n q) (zq_tB T n q) x) ∧ zq_MP T n (zq_mxs M (zq_mk (zq_tK T n q)) (zq_tA T n q) (zq_tB T n q) x) q ∧ q = zq_tB T n p ∧ zq_tK T n p = v) ∧ (∀ e, zq_pTake T n v p = .error e → zq_FL M e (s_Mo_need M v')) := by
  have hk := (zq_mk_iff (zq_tK_set T n p)).2.2.2.2.2.2
  obtain ⟨a, b⟩ := zq_r_next2 h hp
  rw [s_Mo_need, hp.2.1, zq_w32i (z := zq_mk (zq_tK T n p)) (by omega) (by omega), zq_w32i (z := v') (by omega) (by omega)]
  unfold zq_pTake
  by_cases c1 : zq_tK T n p = v
  · rw [if_pos c1, if_pos (hv2.mpr c1)]
    refine ⟨fun q hq => ?_, b⟩
    obtain ⟨x, e1, e2, e3⟩ := a q hq
    exact ⟨x, e1, e2, e3, c1⟩
  · rw [if_neg c1, if_neg (fun z => c1 (hv2.mp z))]
    refine ⟨fun q hq => (by cases hq), fun e he => ?_⟩
    cases he
    rw [hp.2.2.1]
    exact zq_r_flaw2 h.2.2.2.2.1.1 2 _
set_option maxRecDepth 100000 in
def zq_b01 (P : Prop) [Decidable P] : Int := if P then 1 else 0
set_option maxRecDepth 100000 in
theorem zq_b01_0 (P : Prop) [Decidable P] : w32 (zq_b01 P) = 0 ↔ ¬ P := by
  unfold zq_b01; by_cases c : P
  · rw [if_pos c]; simp [c]; decide
  · rw [if_neg c]; simp [c]; decide
set_option maxRecDepth 100000 in
theorem zq_r_at {T : Int → Int} {n w : Int} {M : MS} (h : zq_MB T n w M) {i : Int} (hi : -10 ≤ i ∧ i ≤ 20000) : s_Mo_at M i = some (zq_mz (T i), M) := by
  have := zq_e_mat h.1 (i := i) ⟨by omega, by omega⟩
  rw [h.2.1] at this; exact this
set_option maxRecDepth 100000 in
theorem zq_mz_r {T : Int → Int} {n w : Int} {M : MS} (h : zq_MB T n w M) (i : Int) : 0 ≤ zq_mz (T i) ∧ zq_mz (T i) ≤ 255 := by have := zq_mz_R M i; rw [h.2.1] at this; exact this
set_option maxRecDepth 100000 in
theorem zq_r_isStart {T : Int → Int} {n w : Int} {M : MS} (h : zq_MB T n w M) {a : Int} (ha : M.m_from = a) (ha2 : 0 ≤ a ∧ a ≤ 10240) {v1 v2 v3 : Int} (hv : (0 ≤ v1 ∧ v1 ≤ 255) ∧ (0 ≤ v2 ∧ v2 ≤ 255) ∧ (0 ≤ v3 ∧ v3 ≤ 255)) : s_Mo_isStart M v1 v2 v3 = some (zq_b01 (zq_mz (T a) = v1 ∧ zq_mz (T (a + 1)) = v2 ∧ zq_mz (T (a + 2)) = v3), M) := by
  have r0 := zq_mz_r h a; have r1 := zq_mz_r h (a + 1); have r2 := zq_mz_r h (a + 2)
  rw [s_Mo_isStart, ha, zq_mb2_eq (zq_r_at h (by omega)), zq_w32i (z := zq_mz (T a)) (by omega) (by omega), zq_w32i (z := v1) (by omega) (by omega)]
  unfold zq_b01
  by_cases c1 : zq_mz (T a) = v1
  · rw [if_pos c1, ha, zq_mb2_eq (zq_r_at h (by omega)), zq_w32i (z := zq_mz (T (a + 1))) (by omega) (by omega), zq_w32i (z := v2) (by omega) (by omega)]
    by_cases c2 : zq_mz (T (a + 1)) = v2
    · rw [if_pos c2, ha, zq_mb2_eq (zq_r_at h (by omega)), zq_w32i (z := zq_mz (T (a + 2))) (by omega) (by omega), zq_w32i (z := v3) (by omega) (by omega)]
      by_cases c3 : zq_mz (T (a + 2)) = v3
      · rw [if_pos c3, if_pos ⟨c1, c2, c3⟩]
      · rw [if_neg c3, if_neg (fun z => c3 z.2.2)]
    · rw [if_neg c2, if_neg (fun z => c2 z.2.1)]
  · rw [if_neg c1, if_neg (fun z => c1 z.1)]
set_option maxRecDepth 100000 in
theorem zq_r_isName {T : Int → Int} {n w : Int} {M : MS} {p : Int} (h : zq_MB T n w M) (hp : zq_MP T n M p) {v1 v2 v3 v4 : Int} (hv : (0 ≤ v1 ∧ v1 ≤ 255) ∧ (0 ≤ v2 ∧ v2 ≤ 255) ∧ (0 ≤ v3 ∧ v3 ≤ 255) ∧ (0 ≤ v4 ∧ v4 ≤ 255)) {L : Int} (hL : 2 ≤ L ∧ L ≤ 4) : s_Mo_isName M v1 v2 v3 v4 L = some (zq_b01 (zq_tK T n p = 303 ∧ zq_tB T n p - zq_tA T n p = L ∧ zq_mz (T (zq_tA T n p)) = v1 ∧ zq_mz (T (zq_tA T n p + 1)) = v2 ∧ (L < 3 ∨ zq_mz (T (zq_tA T n p + 2)) = v3) ∧ (L < 4 ∨ zq_mz (T (zq_tA T n p + 3)) = v4)), M) := by
  have hT := zq_MB_T h
  have hn := h.2.2.2.1
  obtain ⟨⟨l1, l2, l3⟩, l4, l5, l6, l7⟩ := hp
  have ga := zq_tA_ge T n p
  have gb := zq_tA_le (T := T) l2
  have hk := zq_mk_iff (zq_tK_set T n p)
  have R := (zq_tok_R hT l1 l2).2.2.1
  have r0 := zq_mz_r h (zq_tA T n p); have r1 := zq_mz_r h (zq_tA T n p + 1); have r2 := zq_mz_r h (zq_tA T n p + 2); have r3 := zq_mz_r h (zq_tA T n p + 3)
  have gB : 0 ≤ zq_tB T n p := by
    by_cases c1 : zq_tK T n p = 301
    · have := (zq_tok_R hT l1 l2).1 c1; omega
    · have := (zq_tok_R hT l1 l2).2.1 c1; omega
  have tail : q_Mo_isName_68 v4 L M = some (zq_b01 (L < 4 ∨ zq_mz (T (zq_tA T n p + 3)) = v4), M) := by
    rw [q_Mo_isName_68, zq_w32i (z := L) (by omega) (by omega)]
    unfold zq_b01
    by_cases c1 : L < 4
    · rw [if_pos c1, if_pos (Or.inl c1)]; rfl
    · rw [if_neg c1, l5, zq_mb2_eq (zq_r_at h (by omega)), zq_w32i (z := zq_mz (T (zq_tA T n p + 3))) (by omega) (by omega), zq_w32i (z := v4) (by omega) (by omega)]
      by_cases c2 : zq_mz (T (zq_tA T n p + 3)) = v4
      · rw [if_pos c2, if_pos (Or.inr c2)]; rfl
      · rw [if_neg c2, if_neg (fun z => z.elim c1 c2)]
  rw [s_Mo_isName, l4, zq_w32i (z := zq_mk (zq_tK T n p)) (by omega) (by omega), l5, l6, zq_w32i (z := zq_tB T n p - zq_tA T n p) (by omega) (by omega), zq_w32i (z := L) (by omega) (by omega)]
  by_cases c1 : zq_tK T n p = 303
  · rw [if_pos (hk.2.2.1.mpr c1)]
    by_cases c2 : zq_tB T n p - zq_tA T n p = L
    · rw [if_pos c2, zq_mb2_eq (zq_r_at h (by omega)), zq_w32i (z := zq_mz (T (zq_tA T n p))) (by omega) (by omega), zq_w32i (z := v1) (by omega) (by omega)]
      by_cases c3 : zq_mz (T (zq_tA T n p)) = v1
      · rw [if_pos c3, l5, zq_mb2_eq (zq_r_at h (by omega)), zq_w32i (z := zq_mz (T (zq_tA T n p + 1))) (by omega) (by omega), zq_w32i (z := v2) (by omega) (by omega)]
        by_cases c4 : zq_mz (T (zq_tA T n p + 1)) = v2
        · rw [if_pos c4]
          by_cases c5 : L < 3
          · rw [if_pos c5, tail]
            unfold zq_b01
            by_cases c6 : L < 4 ∨ zq_mz (T (zq_tA T n p + 3)) = v4
            · rw [if_pos c6, if_pos ⟨c1, c2, c3, c4, Or.inl c5, c6⟩]
            · rw [if_neg c6, if_neg (fun z => c6 z.2.2.2.2.2)]
          · rw [if_neg c5, l5, zq_mb2_eq (zq_r_at h (by omega)), zq_w32i (z := zq_mz (T (zq_tA T n p + 2))) (by omega) (by omega), zq_w32i (z := v3) (by omega) (by omega)]
            by_cases c7 : zq_mz (T (zq_tA T n p + 2)) = v3
            · rw [if_pos c7, tail]
              unfold zq_b01
              by_cases c6 : L < 4 ∨ zq_mz (T (zq_tA T n p + 3)) = v4
              · rw [if_pos c6, if_pos ⟨c1, c2, c3, c4, Or.inr c7, c6⟩]
              · rw [if_neg c6, if_neg (fun z => c6 z.2.2.2.2.2)]
            · rw [if_neg c7, zq_b01, if_neg (fun z => z.2.2.2.2.1.elim c5 c7)]
        · rw [if_neg c4, zq_b01, if_neg (fun z => c4 z.2.2.2.1)]
      · rw [if_neg c3, zq_b01, if_neg (fun z => c3 z.2.2.1)]
    · rw [if_neg c2, zq_b01, if_neg (fun z => c2 z.2.1)]
  · rw [if_neg (fun z => c1 (hk.2.2.1.mp z)), zq_b01, if_neg (fun z => c1 z.1)]
set_option maxRecDepth 100000 in
theorem zq_mz_in {T : Int → Int} {n : Int} (hT : zq_tpT T n) {i : Int} (h : 0 ≤ i ∧ i < n) : zq_mz (T i) = T i := by
  unfold zq_mz; rw [if_neg (fun z => (hT.2 i).mp z h)]
set_option maxRecDepth 100000 in
theorem zq_b01_i (P Q : Prop) [Decidable P] [Decidable Q] (h : P ↔ Q) : zq_b01 P = zq_b01 Q := by
  unfold zq_b01; by_cases c : P
  · rw [if_pos c, if_pos (h.mp c)]
  · rw [if_neg c, if_neg (fun z => c (h.mpr z))]
set_option maxRecDepth 100000 in
theorem zq_r_isBy {T : Int → Int} {n w : Int} {M : MS} {p : Int} (h : zq_MB T n w M) (hp : zq_MP T n M p) : s_Mo_isName M 98 121 32 32 2 = some (zq_b01 (zq_wrd T n p = [98, 121]), M) := by
  have hT := zq_MB_T h
  rw [zq_r_isName h hp (by omega) (L := 2) (by omega)]
  congr 2
  apply zq_b01_i
  unfold zq_wrd
  have R := zq_tok_R hT hp.1.1 hp.1.2.1
  have ga := zq_tA_ge T n p
  have := hp.1.1
  by_cases c1 : zq_tK T n p = 303
  · rw [if_pos c1]
    have R1 := R.2.1 (by omega)
    have R2 := R1.2.2 (by omega)
    by_cases c2 : zq_tB T n p - zq_tA T n p = 2
    · have e : zq_tB T n p = zq_tA T n p + 1 + 1 := by omega
      rw [zq_mz_in hT (by omega), zq_mz_in hT (by omega), e, zq_sl_cons (by omega), zq_sl_cons (by omega), zq_sl_nil (by omega)]
      simp [c1]; omega
    · constructor
      · intro z; exact absurd z.2.1 c2
      · intro z; have := congrArg List.length z; rw [zq_sl_len] at this; simp at this; omega
  · rw [if_neg c1]; simp [c1]
set_option maxRecDepth 100000 in
theorem zq_r_function {T : Int → Int} {n w : Int} {M : MS} {p : Int} (h : zq_MB T n w M) (hp : zq_MP T n M p) : s_Mo_function M = some (if zq_fnK T n p = -1 then -1 else zq_fnK T n p - 1, M) := by
  have hT := zq_MB_T h
  have hn := h.2.2.2.1
  have hp0 := hp
  obtain ⟨⟨l1, l2, l3⟩, l4, l5, l6, l7⟩ := hp
  have ga := zq_tA_ge T n p
  have gb := zq_tA_le (T := T) l2
  have hk := zq_mk_iff (zq_tK_set T n p)
  have R := zq_tok_R hT l1 l2
  rw [s_Mo_function, l4, zq_w32i (z := zq_mk (zq_tK T n p)) (by omega) (by omega)]
  have hB : 0 ≤ zq_tB T n p ∧ zq_tB T n p ≤ 10241 := by
    by_cases c1 : zq_tK T n p = 301
    · have := R.1 c1; omega
    · have := R.2.1 c1; have := this.2.2 l3; omega
  have no : ∀ L : Int, (L ≤ 2 ∨ 7 ≤ L) → 0 ≤ L → L ≤ 10241 → q_Mo_function_21 L M = some (-1, M) := by
    intro L hL h0 h1
    rw [q_Mo_function_21, zq_w32i (z := L) (by omega) (by omega), if_neg (by omega), if_neg (by omega), l6, zq_mb2_eq (zq_r_at h (by omega)), l6, zq_mb2_eq (zq_r_at h (by omega))]
    have z : ∀ a b t : Int, q_Mo_function_109 L a b t M = some (-1, M) := fun a b t => by
      rw [q_Mo_function_109, zq_w32i (z := L) (by omega) (by omega), if_neg (by omega), if_neg (by omega)]
    rw [z, z]; split <;> rfl
  by_cases c1 : zq_tK T n p = 303
  · rw [if_pos (hk.2.2.1.mpr c1), l5, l6]
    have R1 := R.2.1 (by omega)
    have R2 := R1.2.2 (by omega)
    have ew : zq_wrd T n p = zq_sl T (zq_tA T n p) (zq_tB T n p) := by unfold zq_wrd; rw [if_pos c1]
    have elen : (zq_wrd T n p).length = (zq_tB T n p - zq_tA T n p).toNat := by rw [ew, zq_sl_len]
    generalize ha : zq_tA T n p = a at *
    have m0 := zq_mz_r h a; have m1 := zq_mz_r h (a + 1); have m2 := zq_mz_r h (a + 2); have m3 := zq_mz_r h (a + 3); have m4 := zq_mz_r h (a + 4); have m5 := zq_mz_r h (a + 5)
    by_cases zq_d3 : zq_tB T n p - a = 3
    · have e : zq_tB T n p = a + 1 + 1 + 1 := by omega
      have eW : zq_wrd T n p = [zq_mz (T a), zq_mz (T (a + 1)), zq_mz (T (a + 2))] := by
        rw [ew, e, zq_sl_cons (by omega), zq_sl_cons (by omega), zq_sl_cons (by omega), zq_sl_nil (by omega), zq_mz_in hT (by omega), zq_mz_in hT (by omega), zq_mz_in hT (by omega)]
        rw [show a + 1 + 1 = a + 2 by omega]
      rw [q_Mo_function_21, zq_w32i (z := zq_tB T n p - a) (by omega) (by omega), if_pos zq_d3, zq_mb2_eq (zq_r_isName h hp0 (by omega) (L := 3) (by omega))]
      unfold zq_fnK
      rw [eW, ha]
      generalize zq_mz (T a) = t0 at *; generalize zq_mz (T (a + 1)) = t1 at *; generalize zq_mz (T (a + 2)) = t2 at *; generalize zq_mz (T (a + 3)) = t3 at *
      simp only [zq_b01_0]
      by_cases z : t0 = 115 ∧ t1 = 117 ∧ t2 = 109
      · obtain ⟨rfl, rfl, rfl⟩ := z
        simp [c1, zq_d3]
      · rw [if_pos (by intro z2; exact z ⟨z2.2.2.1, z2.2.2.2.1, by rcases z2.2.2.2.2.1 with q | q; omega; exact q⟩)]
        simp
        intro q1 q2 q3; exact absurd ⟨q1, q2, q3⟩ z
    by_cases d4 : zq_tB T n p - a = 4
    · have e : zq_tB T n p = a + 1 + 1 + 1 + 1 := by omega
      have eW : zq_wrd T n p = [zq_mz (T a), zq_mz (T (a + 1)), zq_mz (T (a + 2)), zq_mz (T (a + 3))] := by
        rw [ew, e, zq_sl_cons (by omega), zq_sl_cons (by omega), zq_sl_cons (by omega), zq_sl_cons (by omega), zq_sl_nil (by omega), zq_mz_in hT (by omega), zq_mz_in hT (by omega), zq_mz_in hT (by omega), zq_mz_in hT (by omega)]
        rw [show a + 1 + 1 = a + 2 by omega, show a + 2 + 1 = a + 3 by omega]
      rw [q_Mo_function_21, zq_w32i (z := zq_tB T n p - a) (by omega) (by omega), if_neg zq_d3, if_pos d4, zq_mb2_eq (zq_r_isName h hp0 (by omega) (L := 4) (by omega))]
      unfold zq_fnK
      rw [eW, ha]
      generalize zq_mz (T a) = t0 at *; generalize zq_mz (T (a + 1)) = t1 at *; generalize zq_mz (T (a + 2)) = t2 at *; generalize zq_mz (T (a + 3)) = t3 at *
      simp only [zq_b01_0]
      by_cases z : t0 = 109 ∧ t1 = 111 ∧ t2 = 115 ∧ t3 = 116
      · obtain ⟨rfl, rfl, rfl, rfl⟩ := z
        simp [c1, d4]
      · rw [if_pos (by intro z2; exact z ⟨z2.2.2.1, z2.2.2.2.1, by rcases z2.2.2.2.2.1 with q | q; omega; exact q, by rcases z2.2.2.2.2.2 with q | q; omega; exact q⟩)]
        simp
        intro q1 q2 q3 q4; exact absurd ⟨q1, q2, q3, q4⟩ z
    by_cases d5 : zq_tB T n p - a = 5
    · have e : zq_tB T n p = a + 1 + 1 + 1 + 1 + 1 := by omega
      have eW : zq_wrd T n p = [zq_mz (T a), zq_mz (T (a + 1)), zq_mz (T (a + 2)), zq_mz (T (a + 3)), zq_mz (T (a + 4))] := by
        rw [ew, e, zq_sl_cons (by omega), zq_sl_cons (by omega), zq_sl_cons (by omega), zq_sl_cons (by omega), zq_sl_cons (by omega), zq_sl_nil (by omega), zq_mz_in hT (by omega), zq_mz_in hT (by omega), zq_mz_in hT (by omega), zq_mz_in hT (by omega), zq_mz_in hT (by omega)]
        rw [show a + 1 + 1 = a + 2 by omega, show a + 2 + 1 = a + 3 by omega, show a + 3 + 1 = a + 4 by omega]
      rw [q_Mo_function_21, zq_w32i (z := zq_tB T n p - a) (by omega) (by omega), if_neg zq_d3, if_neg d4, l6, zq_mb2_eq (zq_r_at h (by omega)), l6, zq_mb2_eq (zq_r_at h (by omega))]
      rw [show zq_tB T n p - 1 = a + 4 by omega, show zq_tB T n p - 2 = a + 3 by omega]
      have body : ∀ t : Int, (t = 0 ∨ t = 1) → q_Mo_function_109 (zq_tB T n p - a) (zq_mz (T (a + 4))) (zq_mz (T (a + 3))) t M = some (if (zq_mz (T a) = 99 ∧ zq_mz (T (a + 1)) = 111 ∧ zq_mz (T (a + 2)) = 117) ∧ zq_mz (T (a + 3)) = 110 ∧ t = 1 then 1 else if (zq_mz (T a) = 108 ∧ zq_mz (T (a + 1)) = 101 ∧ zq_mz (T (a + 2)) = 97) ∧ zq_mz (T (a + 3)) = 115 ∧ t = 1 then 2 else if (zq_mz (T a) = 102 ∧ zq_mz (T (a + 1)) = 105 ∧ zq_mz (T (a + 2)) = 114) ∧ zq_mz (T (a + 3)) = 115 ∧ t = 1 then 4 else -1, M) := by
        intro t ht
        rw [q_Mo_function_109, zq_w32i (z := zq_tB T n p - a) (by omega) (by omega), if_pos d5, zq_mb2_eq (zq_r_isStart h l5 (by omega) (by omega))]
        unfold q_Mo_function_144 q_Mo_function_172
        rw [zq_mb2_eq (zq_r_isStart h l5 (by omega) (by omega)), zq_mb2_eq (zq_r_isStart h l5 (by omega) (by omega))]
        simp only [zq_b01_0]
        rw [zq_w32i (z := zq_mz (T (a + 3))) (by omega) (by omega), zq_w32i (z := t) (by omega) (by omega)]
        generalize zq_mz (T a) = t0 at *; generalize zq_mz (T (a + 1)) = t1 at *; generalize zq_mz (T (a + 2)) = t2 at *; generalize zq_mz (T (a + 3)) = t3 at *
        rcases ht with rfl | rfl
        · simp
        · by_cases z1 : t0 = 99 ∧ t1 = 111 ∧ t2 = 117
          · by_cases z2 : t3 = 110
            · simp [z1, z2]
            · simp [z1, z2]
          · by_cases z3 : t0 = 108 ∧ t1 = 101 ∧ t2 = 97
            · by_cases z2 : t3 = 115
              · simp [z3, z2]
              · simp [z3, z2]
            · by_cases z4 : t0 = 102 ∧ t1 = 105 ∧ t2 = 114
              · by_cases z2 : t3 = 115
                · simp [z4, z2]
                · simp [z4, z2]
              · simp [z1, z3, z4]
      rw [body 1 (Or.inr rfl), body 0 (Or.inl rfl), zq_w32i (z := zq_mz (T (a + 4))) (by omega) (by omega)]
      unfold zq_fnK
      rw [eW]
      generalize zq_mz (T a) = t0 at *; generalize zq_mz (T (a + 1)) = t1 at *; generalize zq_mz (T (a + 2)) = t2 at *; generalize zq_mz (T (a + 3)) = t3 at *; generalize zq_mz (T (a + 4)) = t4 at *
      by_cases z0 : t4 = 116
      · by_cases z1 : (t0 = 99 ∧ t1 = 111 ∧ t2 = 117) ∧ t3 = 110
        · simp [z0, z1]
        · by_cases z2 : (t0 = 108 ∧ t1 = 101 ∧ t2 = 97) ∧ t3 = 115
          · simp [z0, z2]
          · by_cases z3 : (t0 = 102 ∧ t1 = 105 ∧ t2 = 114) ∧ t3 = 115
            · simp [z0, z3]
            · have y1 : ¬ (t0 = 99 ∧ t1 = 111 ∧ t2 = 117 ∧ t3 = 110) := fun q => z1 ⟨⟨q.1, q.2.1, q.2.2.1⟩, q.2.2.2⟩
              have y2 : ¬ (t0 = 108 ∧ t1 = 101 ∧ t2 = 97 ∧ t3 = 115) := fun q => z2 ⟨⟨q.1, q.2.1, q.2.2.1⟩, q.2.2.2⟩
              have y3 : ¬ (t0 = 102 ∧ t1 = 105 ∧ t2 = 114 ∧ t3 = 115) := fun q => z3 ⟨⟨q.1, q.2.1, q.2.2.1⟩, q.2.2.2⟩
              simp [z0, z1, z2, z3, y1, y2, y3]
      · simp [z0]
    by_cases d6 : zq_tB T n p - a = 6
    · have e : zq_tB T n p = a + 1 + 1 + 1 + 1 + 1 + 1 := by omega
      have eW : zq_wrd T n p = [zq_mz (T a), zq_mz (T (a + 1)), zq_mz (T (a + 2)), zq_mz (T (a + 3)), zq_mz (T (a + 4)), zq_mz (T (a + 5))] := by
        rw [ew, e, zq_sl_cons (by omega), zq_sl_cons (by omega), zq_sl_cons (by omega), zq_sl_cons (by omega), zq_sl_cons (by omega), zq_sl_cons (by omega), zq_sl_nil (by omega), zq_mz_in hT (by omega), zq_mz_in hT (by omega), zq_mz_in hT (by omega), zq_mz_in hT (by omega), zq_mz_in hT (by omega), zq_mz_in hT (by omega)]
        rw [show a + 1 + 1 = a + 2 by omega, show a + 2 + 1 = a + 3 by omega, show a + 3 + 1 = a + 4 by omega, show a + 4 + 1 = a + 5 by omega]
      rw [q_Mo_function_21, zq_w32i (z := zq_tB T n p - a) (by omega) (by omega), if_neg zq_d3, if_neg d4, l6, zq_mb2_eq (zq_r_at h (by omega)), l6, zq_mb2_eq (zq_r_at h (by omega))]
      rw [show zq_tB T n p - 1 = a + 5 by omega, show zq_tB T n p - 2 = a + 4 by omega]
      have body : ∀ t : Int, (t = 0 ∨ t = 1) → q_Mo_function_109 (zq_tB T n p - a) (zq_mz (T (a + 5))) (zq_mz (T (a + 4))) t M = some (if (zq_mz (T a) = 108 ∧ zq_mz (T (a + 1)) = 97 ∧ zq_mz (T (a + 2)) = 116) ∧ zq_mz (T (a + 3)) = 101 ∧ zq_mz (T (a + 4)) = 115 ∧ t = 1 then 5 else if (zq_mz (T a) = 103 ∧ zq_mz (T (a + 1)) = 114 ∧ zq_mz (T (a + 2)) = 111) ∧ zq_mz (T (a + 3)) = 119 ∧ zq_mz (T (a + 4)) = 116 ∧ zq_mz (T (a + 5)) = 104 then 6 else -1, M) := by
        intro t ht
        rw [q_Mo_function_109, zq_w32i (z := zq_tB T n p - a) (by omega) (by omega), if_neg d5, if_pos d6, zq_mb2_eq (zq_r_isStart h l5 (by omega) (by omega)), l5, zq_mb2_eq (zq_r_at h (by omega))]
        unfold q_Mo_function_253
        rw [zq_mb2_eq (zq_r_isStart h l5 (by omega) (by omega)), l5, zq_mb2_eq (zq_r_at h (by omega))]
        simp only [zq_b01_0]
        rw [zq_w32i (z := zq_mz (T (a + 3))) (by omega) (by omega), zq_w32i (z := zq_mz (T (a + 4))) (by omega) (by omega), zq_w32i (z := zq_mz (T (a + 5))) (by omega) (by omega), zq_w32i (z := t) (by omega) (by omega)]
        generalize zq_mz (T a) = t0 at *; generalize zq_mz (T (a + 1)) = t1 at *; generalize zq_mz (T (a + 2)) = t2 at *; generalize zq_mz (T (a + 3)) = t3 at *; generalize zq_mz (T (a + 4)) = t4 at *; generalize zq_mz (T (a + 5)) = t5 at *
        by_cases z1 : t0 = 108 ∧ t1 = 97 ∧ t2 = 116
        · by_cases z2 : t3 = 101
          · by_cases z3 : t4 = 115
            · rcases ht with rfl | rfl
              · simp [z1, z2, z3]
              · simp [z1, z2, z3]
            · simp [z1, z2, z3]
          · simp [z1, z2]
        · by_cases z4 : t0 = 103 ∧ t1 = 114 ∧ t2 = 111
          · by_cases z2 : t3 = 119
            · by_cases z3 : t4 = 116
              · by_cases z5 : t5 = 104
                · simp [z4, z2, z3, z5]
                · simp [z4, z2, z3, z5]
              · simp [z4, z2, z3]
            · simp [z4, z2]
          · simp [z1, z4]
      rw [body 1 (Or.inr rfl), body 0 (Or.inl rfl), zq_w32i (z := zq_mz (T (a + 5))) (by omega) (by omega)]
      unfold zq_fnK
      rw [eW]
      generalize zq_mz (T a) = t0 at *; generalize zq_mz (T (a + 1)) = t1 at *; generalize zq_mz (T (a + 2)) = t2 at *; generalize zq_mz (T (a + 3)) = t3 at *; generalize zq_mz (T (a + 4)) = t4 at *; generalize zq_mz (T (a + 5)) = t5 at *
      by_cases z1 : t0 = 108 ∧ t1 = 97 ∧ t2 = 116 ∧ t3 = 101 ∧ t4 = 115
      · by_cases z0 : t5 = 116
        · simp [z0, z1]
        · simp [z0, z1]
      · have y1 : ¬ ((t0 = 108 ∧ t1 = 97 ∧ t2 = 116) ∧ t3 = 101 ∧ t4 = 115) := fun q => z1 ⟨q.1.1, q.1.2.1, q.1.2.2, q.2.1, q.2.2⟩
        by_cases z2 : t0 = 103 ∧ t1 = 114 ∧ t2 = 111 ∧ t3 = 119 ∧ t4 = 116
        · by_cases z0 : t5 = 104
          · simp [z0, z2]
          · by_cases z00 : t5 = 116
            · simp [z00, z2]
            · simp [z0, z00, z2]
        · have y2 : ¬ ((t0 = 103 ∧ t1 = 114 ∧ t2 = 111) ∧ t3 = 119 ∧ t4 = 116 ∧ t5 = 104) := fun q => z2 ⟨q.1.1, q.1.2.1, q.1.2.2, q.2.1, q.2.2.1⟩
          have y3 : ¬ (t0 = 108 ∧ t1 = 97 ∧ t2 = 116 ∧ t3 = 101 ∧ t4 = 115 ∧ t5 = 116) := fun q => z1 ⟨q.1, q.2.1, q.2.2.1, q.2.2.2.1, q.2.2.2.2.1⟩
          have y4 : ¬ (t0 = 103 ∧ t1 = 114 ∧ t2 = 111 ∧ t3 = 119 ∧ t4 = 116 ∧ t5 = 104) := fun q => z2 ⟨q.1, q.2.1, q.2.2.1, q.2.2.2.1, q.2.2.2.2.1⟩
          have y5 : ¬ ((t0 = 108 ∧ t1 = 97 ∧ t2 = 116) ∧ t3 = 101 ∧ t4 = 115 ∧ (1 : Int) = 1) := fun q => y1 ⟨q.1, q.2.1, q.2.2.1⟩
          by_cases z00 : t5 = 116
          · rw [if_pos z00, if_neg y5, if_neg y2]; simp [y3, y4]
          · rw [if_neg z00, if_neg (by simp), if_neg y2]; simp [y3, y4]
    · rw [no _ (by omega) (by omega) (by omega)]
      have : zq_fnK T n p = -1 := by
        have hne : ∀ V : List Int, (V.length = 3 ∨ V.length = 4 ∨ V.length = 5 ∨ V.length = 6) → ¬ zq_wrd T n p = V := by
          intro V hV z; rw [z] at elen; omega
        unfold zq_fnK
        rw [if_neg (hne _ (by simp)), if_neg (hne _ (by simp)), if_neg (hne _ (by simp)), if_neg (hne _ (by simp)), if_neg (hne _ (by simp)), if_neg (hne _ (by simp)), if_neg (hne _ (by simp))]
      rw [this, if_pos rfl]
  · rw [if_neg (fun z => c1 (hk.2.2.1.mp z)), no 0 (by omega) (by omega) (by omega)]
    have : zq_fnK T n p = -1 := by
      cases hh : decide (zq_fnK T n p = -1) with
      | true => exact of_decide_eq_true hh
      | false => exact absurd (zq_fnK_303 (of_decide_eq_false hh)) c1
    rw [this, if_pos rfl]
set_option maxRecDepth 100000 in
def zq_mnw (M : MS) (a b c : Int → Int) : MS := MS.w_m_nameLengths (MS.w_m_nameFroms (MS.w_m_tableNames M a) b) c
set_option maxRecDepth 100000 in
/-- the names of one table, in the reference -/
def zq_NX (M : MS) (P : Int) (ns : List zq_NM) : Prop := M.m_tableNames P = ns.length ∧ ∀ (i : Nat) (x : zq_NM), ns[i]? = some x → M.m_nameFroms (6 * P + i) = x.1 ∧ M.m_nameLengths (6 * P + i) = x.2
set_option maxRecDepth 100000 in
def zq_NO (M : MS) (P : Int) (a b c : Int → Int) : Prop := (∀ j, j ≠ P → a j = M.m_tableNames j) ∧ (∀ j, (j < 6 * P ∨ 6 * P + 6 ≤ j) → b j = M.m_nameFroms j ∧ c j = M.m_nameLengths j)
set_option maxRecDepth 100000 in
theorem zq_tape_T {T : Int → Int} {n w : Int} {M : MS} (h : zq_MB T n w M) {i j : Int} (hi : 0 ≤ i ∧ i < n) (hj : 0 ≤ j ∧ j < n) : (w32 (M.m_tape i) = w32 (M.m_tape j)) ↔ T i = T j := by
  obtain ⟨h1, h2, h3, h4⟩ := h
  have b1 := h1.2.2 i; have b2 := h1.2.2 j
  have e1 : T i = M.m_tape i % 256 := by rw [← h2]; exact if_pos ⟨hi.1, by omega⟩
  have e2 : T j = M.m_tape j % 256 := by rw [← h2]; exact if_pos ⟨hj.1, by omega⟩
  rw [zq_w32i (z := M.m_tape i) (by omega) (by omega), zq_w32i (z := M.m_tape j) (by omega) (by omega), e1, e2]
  omega
set_option maxRecDepth 100000 in
theorem zq_E_by112 {T : Int → Int} {n w : Int} {M : MS} (h : zq_MB T n w M) {a P i : Int} {len : Nat} {x1 : Int} (ha : M.m_from = a) (hlen : M.m_to - M.m_from = len) (h0 : 0 ≤ a ∧ a + len ≤ n) (hx : M.m_nameFroms (6 * P + i) = x1) (hx0 : 0 ≤ x1 ∧ x1 + len ≤ n) (hP : 0 ≤ 6 * P + i ∧ 6 * P + i < 120) (k25 : Int → Int → MS → Option (Int × MS)) (k67 : Int → Int → Int → MS → Option (Int × MS)) (v3 : Int) : ∀ (f j : Nat) (d : Prop) [Decidable d], j ≤ len → len - j < f → q_Mo_by_112 k25 k67 f P v3 i (zq_b01 d) j M = q_Mo_by_179 k25 k67 P v3 i (zq_b01 (d ∧ zq_slF T (len - j) (x1 + j) = zq_slF T (len - j) (a + j))) M
  | 0, j, d, _ => by omega
  | f + 1, j, d, _ => by
    intro h1 h2
    have hn := h.2.2.2.1
    rw [q_Mo_by_112, hlen, zq_w32i (z := (len : Int)) (by omega) (by omega), zq_w32i (z := (j : Int)) (by omega) (by omega)]
    by_cases c1 : len ≤ j
    · rw [if_pos (by omega), show len - j = 0 by omega]
      congr 1
      apply zq_b01_i
      simp [zq_slF]
    · rw [if_neg (by omega)]
      by_cases c2 : d
      · rw [if_neg (by rw [zq_b01_0]; simp [c2]), if_pos hP, hx, ha, if_pos ⟨by omega, by omega⟩, if_pos ⟨by omega, by omega⟩]
        have e := zq_tape_T h (i := x1 + j) (j := a + j) (by omega) (by omega)
        have e2 : zq_slF T (len - j) (x1 + j) = zq_slF T (len - j) (a + j) ↔ T (x1 + j) = T (a + j) ∧ zq_slF T (len - (j + 1)) (x1 + (j + 1 : Nat)) = zq_slF T (len - (j + 1)) (a + (j + 1 : Nat)) := by
          rw [show len - j = (len - (j + 1)) + 1 by omega, zq_slF, zq_slF, List.cons.injEq]
          rw [show x1 + (j : Int) + 1 = x1 + ((j + 1 : Nat) : Int) by omega, show a + (j : Int) + 1 = a + ((j + 1 : Nat) : Int) by omega]
        have e3 : ∀ (g : Prop) [Decidable g], (if w32 (M.m_tape (x1 + j)) = w32 (M.m_tape (a + j)) then q_Mo_by_171 k25 k67 (q_Mo_by_112 k25 k67 f) P v3 i j 1 M else q_Mo_by_171 k25 k67 (q_Mo_by_112 k25 k67 f) P v3 i j 0 M) = q_Mo_by_112 k25 k67 f P v3 i (zq_b01 (T (x1 + j) = T (a + j))) ((j + 1 : Nat) : Int) M := by
          intro g _
          rw [show ((j + 1 : Nat) : Int) = (j : Int) + 1 by omega]
          unfold zq_b01
          by_cases c3 : T (x1 + j) = T (a + j)
          · rw [if_pos (e.mpr c3), if_pos c3]; rfl
          · rw [if_neg (fun z => c3 (e.mp z)), if_neg c3]; rfl
        rw [e3 True, zq_E_by112 h ha hlen h0 hx hx0 hP k25 k67 v3 f (j + 1) (T (x1 + j) = T (a + j)) (by omega) (by omega)]
        congr 1
        apply zq_b01_i
        rw [e2]
        exact ⟨fun z => ⟨c2, z⟩, fun z => z.2⟩
      · rw [if_pos (by rw [zq_b01_0]; exact c2)]
        congr 1
        apply zq_b01_i
        exact ⟨fun z => absurd z c2, fun z => absurd z.1 c2⟩
set_option maxRecDepth 100000 in
theorem zq_nmx_iff {T : Int → Int} {x y : zq_NM} (hx : 0 ≤ x.2) (hy : 0 ≤ y.2) : zq_nmx T x = zq_nmx T y ↔ x.2 = y.2 ∧ zq_slF T y.2.toNat x.1 = zq_slF T y.2.toNat y.1 := by
  have e1 : zq_nmx T x = zq_slF T x.2.toNat x.1 := by unfold zq_nmx zq_sl; rw [show x.1 + x.2 - x.1 = x.2 by omega]
  have e2 : zq_nmx T y = zq_slF T y.2.toNat y.1 := by unfold zq_nmx zq_sl; rw [show y.1 + y.2 - y.1 = y.2 by omega]
  rw [e1, e2]
  constructor
  · intro z
    have := congrArg List.length z
    rw [zq_slF_len, zq_slF_len] at this
    have e : x.2 = y.2 := by omega
    rw [e] at z
    exact ⟨e, z⟩
  · rintro ⟨z1, z2⟩
    rw [z1]; exact z2
set_option maxRecDepth 100000 in
/-- the look through the names that are there -/
theorem zq_E_by67 {T : Int → Int} {n w : Int} {M : MS} (h : zq_MB T n w M) {P : Int} (hP : 0 ≤ P ∧ P < 20) {ns : List zq_NM} (hns : zq_NX M P ns) (ho : zq_okN n ns) {y : zq_NM} (hy : M.m_from = y.1 ∧ M.m_to - M.m_from = y.2 ∧ 0 ≤ y.1 ∧ 0 ≤ y.2 ∧ y.1 + y.2 ≤ n) (k25 : Int → Int → MS → Option (Int × MS)) : ∀ (f i : Nat) (d : Prop) [Decidable d], i ≤ ns.length → ns.length - i < f → q_Mo_by_67 k25 f P (zq_b01 d) i M = q_Mo_by_67 k25 1 P (zq_b01 (d ∨ (ns.drop i).any (fun x => zq_nmx T x == zq_nmx T y) = true)) (ns.length : Int) M
  | 0, i, d, _ => by omega
  | f + 1, i, d, _ => by
    intro h1 h2
    have h6 := ho.2
    by_cases c1 : ns.length = i
    · subst c1
      have e67 : ∀ (g : Nat) (v : Int), q_Mo_by_67 k25 (g + 1) P v (ns.length : Int) M = if w32 v = 0 then if (0 : Int) ≤ P ∧ P < (20 : Int) then if (0 : Int) ≤ ((6 * P) + (M.m_tableNames P)) ∧ ((6 * P) + (M.m_tableNames P)) < (120 : Int) then if (0 : Int) ≤ P ∧ P < (20 : Int) then if (0 : Int) ≤ ((6 * P) + (M.m_tableNames P)) ∧ ((6 * P) + (M.m_tableNames P)) < (120 : Int) then if (0 : Int) ≤ P ∧ P < (20 : Int) then if (0 : Int) ≤ P ∧ P < (20 : Int) then mb2 (s_Mo_next (MS.w_m_tableNames (MS.w_m_nameLengths (MS.w_m_nameFroms M (aU M.m_nameFroms ((6 * P) + (M.m_tableNames P)) M.m_from)) (aU M.m_nameLengths ((6 * P) + (M.m_tableNames P)) (M.m_to - M.m_from))) (aU M.m_tableNames P ((M.m_tableNames P) + 1))) ) (fun r57 S57 => if w32 r57 = 0 then some (0, S57) else if w32 S57.m_kind = 44 then q_Mo_by_292 k25 P 1 S57 else q_Mo_by_292 k25 P 0 S57) else none else none else none else none else none else none else mb2 (s_Mo_flaw M 4 M.m_from) (fun r60 S60 => if r60 = 0 ∨ r60 = 1 then some (r60, S60) else none) := by
        intro g v
        have hle : w32 (M.m_tableNames P) ≤ w32 (ns.length : Int) := by rw [hns.1]; exact Int.le_refl _
        rw [q_Mo_by_67]
        conv => lhs; rw [if_pos hP, if_pos hle]
      rw [List.drop_length, e67 f, e67 0]
      have : zq_b01 (d ∨ (([] : List zq_NM).any (fun x => zq_nmx T x == zq_nmx T y) = true)) = zq_b01 d := zq_b01_i _ _ (by simp)
      rw [this]
    · have hi : i < ns.length := by omega
      have hx : ns[i]? = some (ns[i]'hi) := List.getElem?_eq_getElem _
      obtain ⟨n1, n2⟩ := hns.2 i _ hx
      have ox := ho.1 _ (List.mem_of_getElem? hx)
      generalize ns[i]'hi = x at *
      have ed : (ns.drop i).any (fun x => zq_nmx T x == zq_nmx T y) = (zq_nmx T x == zq_nmx T y || (ns.drop (i + 1)).any (fun x => zq_nmx T x == zq_nmx T y)) := by
        have : ns.drop i = x :: ns.drop (i + 1) := by
          have := List.drop_eq_getElem_cons (l := ns) hi
          rw [this]
          congr 1
          have := List.getElem?_eq_getElem hi
          rw [hx] at this
          exact (Option.some.inj this).symm
        rw [this]; rfl
      rw [q_Mo_by_67, if_pos hP, hns.1, zq_w32i (z := (ns.length : Int)) (by omega) (by omega), zq_w32i (z := (i : Int)) (by omega) (by omega), if_neg (by omega), if_pos ⟨by omega, by omega⟩, n2, hy.2.1]
      have hn := h.2.2.2.1
      rw [zq_w32i (z := x.2) (by omega) (by omega), zq_w32i (z := y.2) (by omega) (by omega)]
      have step : (if x.2 = y.2 then q_Mo_by_107 k25 (q_Mo_by_67 k25 f) P (zq_b01 d) (i : Int) 1 M else q_Mo_by_107 k25 (q_Mo_by_67 k25 f) P (zq_b01 d) (i : Int) 0 M) = q_Mo_by_67 k25 f P (zq_b01 (d ∨ zq_nmx T x = zq_nmx T y)) ((i + 1 : Nat) : Int) M := by
        have fin : ∀ (g : Prop) [Decidable g], (g ↔ zq_nmx T x = zq_nmx T y) → q_Mo_by_179 k25 (q_Mo_by_67 k25 f) P (zq_b01 d) (i : Int) (zq_b01 g) M = q_Mo_by_67 k25 f P (zq_b01 (d ∨ zq_nmx T x = zq_nmx T y)) ((i + 1 : Nat) : Int) M := by
          intro g _ hg
          rw [q_Mo_by_179]
          by_cases cd : d
          · rw [if_neg (by rw [zq_b01_0]; simp [cd]), q_Mo_by_188, q_Mo_by_193]
            rw [show zq_b01 (d ∨ zq_nmx T x = zq_nmx T y) = 1 from if_pos (Or.inl cd)]; rfl
          · rw [if_pos (by rw [zq_b01_0]; exact cd)]
            by_cases cg : g
            · rw [if_neg (by rw [zq_b01_0]; simp [cg]), q_Mo_by_188, q_Mo_by_193, show zq_b01 (d ∨ zq_nmx T x = zq_nmx T y) = 1 from if_pos (Or.inr (hg.mp cg))]; rfl
            · rw [if_pos (by rw [zq_b01_0]; exact cg), q_Mo_by_193, show zq_b01 (d ∨ zq_nmx T x = zq_nmx T y) = 0 from if_neg (by rintro (z | z); exact cd z; exact cg (hg.mpr z))]; rfl
        by_cases c2 : x.2 = y.2
        · rw [if_pos c2, q_Mo_by_107]
          have := zq_E_by112 h (a := y.1) (P := P) (i := (i : Int)) (len := y.2.toNat) (x1 := x.1) hy.1 (by omega) (by omega) n1 (by omega) ⟨by omega, by omega⟩ k25 (q_Mo_by_67 k25 f) (zq_b01 d) fU 0 True (by omega) (zq_fU_gt (by omega))
          rw [show zq_b01 True = 1 from if_pos trivial, show ((0 : Nat) : Int) = 0 from rfl] at this
          rw [this]
          apply fin
          rw [zq_nmx_iff ox.2.1 hy.2.2.2.1]
          rw [show x.1 + 0 = x.1 by omega, show y.1 + 0 = y.1 by omega, Nat.sub_zero]
          simp [c2]
        · rw [if_neg c2, q_Mo_by_107]
          have e : q_Mo_by_112 k25 (q_Mo_by_67 k25 f) fU P (zq_b01 d) (i : Int) 0 0 M = q_Mo_by_179 k25 (q_Mo_by_67 k25 f) P (zq_b01 d) (i : Int) 0 M := by
            rw [show fU = 999999 + 1 from rfl, q_Mo_by_112, hy.2.1, zq_w32i (z := y.2) (by omega) (by omega)]
            by_cases z : y.2 ≤ w32 0
            · rw [if_pos z]
            · rw [if_neg z, if_pos (by decide)]
          rw [e]
          have := fin False ⟨fun z => z.elim, fun z => c2 ((zq_nmx_iff ox.2.1 hy.2.2.2.1).mp z).1⟩
          rw [show zq_b01 False = 0 from if_neg (fun z => z)] at this
          exact this
      rw [step, zq_E_by67 h hP hns ho hy k25 f (i + 1) (d ∨ zq_nmx T x = zq_nmx T y) (by omega) (by omega)]
      have : zq_b01 ((d ∨ zq_nmx T x = zq_nmx T y) ∨ (ns.drop (i + 1)).any (fun x => zq_nmx T x == zq_nmx T y) = true) = zq_b01 (d ∨ (ns.drop i).any (fun x => zq_nmx T x == zq_nmx T y) = true) := by
        apply zq_b01_i
        rw [ed, Bool.or_eq_true, beq_iff_eq, or_assoc]
      rw [this]
set_option maxRecDepth 100000 in
theorem zq_NX_mxs {M : MS} {P : Int} {ns : List zq_NM} (h : zq_NX M P ns) (k f t : Int) (x : Int64) : zq_NX (zq_mxs M k f t x) P ns := h
set_option maxRecDepth 100000 in
/-- names are read -/
theorem zq_E_by25 {T : Int → Int} {n w : Int} {P : Int} (hP : 0 ≤ P ∧ P < 20) : ∀ (m f : Nat) (M : MS) (ns : List zq_NM) (p : Int), zq_MB T n w M → zq_MP T n M p → zq_NX M P ns → zq_okN n ns → n - zq_tA T n p ≤ m → m + 1 < f →
    (∀ q ns', zq_pbd (zq_pNames T n m ns p) (fun y => zq_pbd (zq_pTake T n 41 y.1) (fun q => .ok (q, y.2))) = .ok (q, ns') → ∃ a b c x, q_Mo_by_25 f P 1 M = some (1, zq_mxs (zq_mnw M a b c) (zq_mk (zq_tK T n q)) (zq_tA T n q) (zq_tB T n q) x) ∧ zq_MP T n (zq_mxs (zq_mnw M a b c) (zq_mk (zq_tK T n q)) (zq_tA T n q) (zq_tB T n q) x) q ∧ zq_NO M P a b c ∧ zq_NX (zq_mnw M a b c) P ns' ∧ zq_okN n ns') ∧
    (∀ e, zq_pbd (zq_pNames T n m ns p) (fun y => zq_pbd (zq_pTake T n 41 y.1) (fun q => .ok (q, y.2))) = .error e → zq_FL M e (q_Mo_by_25 f P 1 M))
  | m, 0, M, ns, p => by omega
  | m, f + 1, M, ns, p => by
    intro h hp hx ho hm hf
    have hT := zq_MB_T h
    have hn := h.2.2.2.1
    have hk := zq_mk_iff (zq_tK_set T n p)
    have p1 := hp.1.1; have p2 := hp.1.2.1; have p3 := hp.1.2.2
    have R := zq_tok_R hT p1 p2
    have ga := zq_tA_ge T n p
    have h6 := ho.2
    have e0 : q_Mo_by_25 (f + 1) P 1 M = if zq_tK T n p = 303 then (if M.m_tableNames P = 6 then q_Mo_by_63 (q_Mo_by_25 f) P 1 M else q_Mo_by_63 (q_Mo_by_25 f) P 0 M) else mb2 (s_Mo_flaw M 2 M.m_from) (fun r46 S46 => if r46 = 0 ∨ r46 = 1 then some (r46, S46) else none) := by
      rw [q_Mo_by_25, if_neg (by decide), hp.2.1, zq_w32i (z := zq_mk (zq_tK T n p)) (by omega) (by omega)]
      by_cases c1 : zq_tK T n p = 303
      · rw [if_pos (hk.2.2.1.mpr c1), if_pos c1, if_pos hP, zq_w32i (z := M.m_tableNames P) (by rw [hx.1]; omega) (by rw [hx.1]; omega)]
      · rw [if_neg (fun z => c1 (hk.2.2.1.mp z)), if_neg c1]
    cases m with
    | zero =>
      have c301 : zq_tK T n p = 301 := by
        by_cases z : zq_tK T n p = 301
        · exact z
        · have := (R.2.1 z).1; omega
      have ep : zq_pbd (zq_pNames T n 0 ns p) (fun y => zq_pbd (zq_pTake T n 41 y.1) (fun q => Except.ok (q, y.2))) = .error (2, zq_tA T n p) := by
        rw [zq_pNames, zq_pbd_ok]
        show zq_pbd (zq_pTake T n 41 p) _ = _
        rw [zq_pTake, if_neg (by omega)]; rfl
      rw [ep]
      refine ⟨fun q ns' z => (by cases z), fun e z => ?_⟩
      cases z
      rw [e0, if_neg (by omega), hp.2.2.1]
      exact zq_r_flaw2 h.2.2.2.2.1.1 2 _
    | succ m =>
      by_cases c1 : zq_tK T n p = 303
      · have R1 := R.2.1 (by omega)
        have R2 := R1.2.2 p3
        have hy : M.m_from = (zq_tA T n p, zq_tB T n p - zq_tA T n p).1 ∧ M.m_to - M.m_from = (zq_tA T n p, zq_tB T n p - zq_tA T n p).2 ∧ 0 ≤ (zq_tA T n p, zq_tB T n p - zq_tA T n p).1 ∧ 0 ≤ (zq_tA T n p, zq_tB T n p - zq_tA T n p).2 ∧ (zq_tA T n p, zq_tB T n p - zq_tA T n p).1 + (zq_tA T n p, zq_tB T n p - zq_tA T n p).2 ≤ n := ⟨hp.2.2.1, by rw [hp.2.2.2.1, hp.2.2.1], by show 0 ≤ zq_tA T n p; omega, by show 0 ≤ zq_tB T n p - zq_tA T n p; omega, by show zq_tA T n p + (zq_tB T n p - zq_tA T n p) ≤ n; omega⟩
        have e1 : q_Mo_by_25 (f + 1) P 1 M = q_Mo_by_67 (q_Mo_by_25 f) 1 P (zq_b01 (6 ≤ ns.length ∨ ns.any (fun x => zq_nmx T x == zq_nmx T (zq_tA T n p, zq_tB T n p - zq_tA T n p)) = true)) (ns.length : Int) M := by
          have key : ∀ (d : Prop) [Decidable d], q_Mo_by_63 (q_Mo_by_25 f) P (zq_b01 d) M = q_Mo_by_67 (q_Mo_by_25 f) 1 P (zq_b01 (d ∨ ns.any (fun x => zq_nmx T x == zq_nmx T (zq_tA T n p, zq_tB T n p - zq_tA T n p)) = true)) (ns.length : Int) M := by
            intro d _
            rw [q_Mo_by_63]
            have := zq_E_by67 h hP hx ho hy (q_Mo_by_25 f) fU 0 d (by omega) (zq_fU_gt (by omega))
            rw [List.drop_zero] at this
            exact this
          rw [e0, if_pos c1, hx.1]
          by_cases c2 : (ns.length : Int) = 6
          · rw [if_pos c2]
            have := key True
            rw [show zq_b01 True = 1 from if_pos trivial] at this
            rw [this]; congr 1; apply zq_b01_i; simp; left; omega
          · rw [if_neg c2]
            have := key False
            rw [show zq_b01 False = 0 from if_neg (fun z => z)] at this
            rw [this]; congr 1; apply zq_b01_i
            constructor
            · rintro (z | z)
              · exact z.elim
              · exact Or.inr z
            · rintro (z | z)
              · omega
              · exact Or.inr z
        rw [e1]
        by_cases c2 : 6 ≤ ns.length ∨ ns.any (fun x => zq_nmx T x == zq_nmx T (zq_tA T n p, zq_tB T n p - zq_tA T n p)) = true
        · have ep : zq_pbd (zq_pNames T n (m + 1) ns p) (fun y => zq_pbd (zq_pTake T n 41 y.1) (fun q => Except.ok (q, y.2))) = .error (4, zq_tA T n p) := by
            rw [zq_pNames, if_pos c1, if_pos c2]; rfl
          rw [ep]
          refine ⟨fun q ns' z => (by cases z), fun e z => ?_⟩
          cases z
          rw [q_Mo_by_67, if_pos hP, hx.1, if_pos (Int.le_refl _), if_neg (by rw [zq_b01_0]; simp only [Classical.not_not]; exact c2), hp.2.2.1]
          exact zq_r_flaw2 h.2.2.2.2.1.1 4 _
        · -- a name comes
          have c2' : ns.length < 6 := by
            by_cases z : 6 ≤ ns.length
            · exact absurd (Or.inl z) c2
            · omega
          have e2 : q_Mo_by_67 (q_Mo_by_25 f) 1 P (zq_b01 (6 ≤ ns.length ∨ ns.any (fun x => zq_nmx T x == zq_nmx T (zq_tA T n p, zq_tB T n p - zq_tA T n p)) = true)) (ns.length : Int) M = mb2 (s_Mo_next (zq_mnw M (aU M.m_tableNames P ((ns.length : Int) + 1)) (aU M.m_nameFroms (6 * P + ns.length) (zq_tA T n p)) (aU M.m_nameLengths (6 * P + ns.length) (zq_tB T n p - zq_tA T n p)))) (fun r57 S57 => if w32 r57 = 0 then some (0, S57) else if w32 S57.m_kind = 44 then q_Mo_by_292 (q_Mo_by_25 f) P 1 S57 else q_Mo_by_292 (q_Mo_by_25 f) P 0 S57) := by
            have g1 : (0 : Int) ≤ P ∧ P < 20 := hP
            have g2 : (0 : Int) ≤ 6 * P + (ns.length : Int) ∧ 6 * P + (ns.length : Int) < 120 := by omega
            rw [q_Mo_by_67, if_pos g1, hx.1, if_pos (Int.le_refl _), if_pos (by rw [zq_b01_0]; exact c2), if_pos g1, if_pos g2, if_pos g1, if_pos g2, if_pos g1, if_pos g1, hp.2.2.1, hp.2.2.2.1]; rfl
          rw [e2]
          generalize hM1 : zq_mnw M (aU M.m_tableNames P ((ns.length : Int) + 1)) (aU M.m_nameFroms (6 * P + ns.length) (zq_tA T n p)) (aU M.m_nameLengths (6 * P + ns.length) (zq_tB T n p - zq_tA T n p)) = M1
          have hMB1 : zq_MB T n w M1 := by rw [← hM1]; exact h
          have hMP1 : zq_MP T n M1 p := by rw [← hM1]; exact hp
          have hK1 : zq_KF M M1 := by rw [← hM1]; rfl
          have hNX1 : zq_NX M1 P (ns ++ [(zq_tA T n p, zq_tB T n p - zq_tA T n p)]) := by
            rw [← hM1]
            refine ⟨?_, fun i x hi => ?_⟩
            · show aU M.m_tableNames P ((ns.length : Int) + 1) P = _
              rw [zq_aU_at]; simp
            · show aU M.m_nameFroms (6 * P + ns.length) (zq_tA T n p) (6 * P + i) = _ ∧ aU M.m_nameLengths (6 * P + ns.length) (zq_tB T n p - zq_tA T n p) (6 * P + i) = _
              by_cases z : i < ns.length
              · rw [List.getElem?_append_left z] at hi
                rw [zq_aU_ne _ _ _ _ (by omega), zq_aU_ne _ _ _ _ (by omega)]
                exact hx.2 i x hi
              · have hil : i < (ns ++ [(zq_tA T n p, zq_tB T n p - zq_tA T n p)]).length := (List.getElem?_eq_some_iff.mp hi).1
                simp at hil
                have : i = ns.length := by omega
                subst this
                rw [List.getElem?_append_right (Nat.le_refl _), Nat.sub_self] at hi
                simp at hi; subst hi
                rw [zq_aU_at, zq_aU_at]; exact ⟨rfl, rfl⟩
          have hNO1 : zq_NO M P (aU M.m_tableNames P ((ns.length : Int) + 1)) (aU M.m_nameFroms (6 * P + ns.length) (zq_tA T n p)) (aU M.m_nameLengths (6 * P + ns.length) (zq_tB T n p - zq_tA T n p)) := by
            refine ⟨fun j hj => zq_aU_ne _ _ _ _ hj, fun j hj => ⟨zq_aU_ne _ _ _ _ (by omega), zq_aU_ne _ _ _ _ (by omega)⟩⟩
          have ho1 : zq_okN n (ns ++ [(zq_tA T n p, zq_tB T n p - zq_tA T n p)]) := ⟨fun y hy' => by
              rcases List.mem_append.mp hy' with z | z
              · exact ho.1 y z
              · simp at z; subst z; exact ⟨hy.2.2.1, hy.2.2.2⟩, by simp; omega⟩
          have ep : zq_pNames T n (m + 1) ns p = zq_pbd (zq_pAdv T n p) (fun q => if zq_tK T n q = 44 then zq_pbd (zq_pAdv T n q) (fun q2 => zq_pNames T n m (ns ++ [(zq_tA T n p, zq_tB T n p - zq_tA T n p)]) q2) else .ok (q, ns ++ [(zq_tA T n p, zq_tB T n p - zq_tA T n p)])) := by
            rw [zq_pNames, if_pos c1, if_neg c2]
          rw [ep]
          obtain ⟨nx1, nx2⟩ := zq_r_next hMB1 hMP1
          cases hq : zq_pAdv T n p with
          | error e =>
            refine ⟨fun q ns' z => (by cases z), fun e' z => ?_⟩
            cases z
            exact zq_FL_KF (zq_FL_bind (nx2 e hq) (fun S => by rw [if_pos (by decide)])) hK1
          | ok q =>
            obtain ⟨x, f1, f2, f3⟩ := nx1 q hq
            rw [zq_mb2_eq f1, if_neg (by decide)]
            rw [zq_pbd_ok]
            generalize hM2 : zq_mxs M1 (zq_mk (zq_tK T n q)) (zq_tA T n q) (zq_tB T n q) x = M2 at *
            have hMB2 : zq_MB T n w M2 := by rw [← hM2]; exact hMB1
            have hK2 : zq_KF M M2 := by rw [← hM2]; exact hK1
            have hkq := zq_mk_iff (zq_tK_set T n q)
            rw [f2.2.1, zq_w32i (z := zq_mk (zq_tK T n q)) (by omega) (by omega)]
            have gq := zq_tA_ge T n q
            by_cases c4 : zq_tK T n q = 44
            · rw [if_pos ((hkq.2.2.2.2.1 44 (by omega) (by omega)).mpr c4), if_pos c4, q_Mo_by_292, if_neg (by decide)]
              obtain ⟨ny1, ny2⟩ := zq_r_next hMB2 f2
              cases hq2 : zq_pAdv T n q with
              | error e =>
                refine ⟨fun q ns' z => (by cases z), fun e' z => ?_⟩
                cases z
                exact zq_FL_KF (zq_FL_bind (ny2 e hq2) (fun S => by rw [if_pos (by decide)])) hK2
              | ok q2 =>
                obtain ⟨x', g1, g2, g3⟩ := ny1 q2 hq2
                rw [zq_mb2_eq g1, if_neg (by decide), q_Mo_by_306, zq_pbd_ok]
                have gq2 := zq_tA_ge T n q2
                have Rq := (zq_tok_R hT f2.1.1 f2.1.2.1).2.1 (by omega)
                have IH := zq_E_by25 hP m f (zq_mxs M2 (zq_mk (zq_tK T n q2)) (zq_tA T n q2) (zq_tB T n q2) x') (ns ++ [(zq_tA T n p, zq_tB T n p - zq_tA T n p)]) q2 hMB2 g2 (by rw [← hM2]; exact hNX1) ho1 (by omega) (by omega)
                refine ⟨fun q9 ns9 z => ?_, fun e z => zq_FL_KF (IH.2 e z) hK2⟩
                obtain ⟨a, b, c, y, i1, i2, i3, i4, i5⟩ := IH.1 q9 ns9 z
                have em : zq_mxs (zq_mnw (zq_mxs M2 (zq_mk (zq_tK T n q2)) (zq_tA T n q2) (zq_tB T n q2) x') a b c) (zq_mk (zq_tK T n q9)) (zq_tA T n q9) (zq_tB T n q9) y = zq_mxs (zq_mnw M a b c) (zq_mk (zq_tK T n q9)) (zq_tA T n q9) (zq_tB T n q9) y := by
                  rw [← hM2, ← hM1]; rfl
                rw [em] at i1 i2
                refine ⟨a, b, c, y, i1, i2, ?_, i4, i5⟩
                refine ⟨fun j hj => ?_, fun j hj => ?_⟩
                · rw [i3.1 j hj, ← hM2, ← hM1]; exact hNO1.1 j hj
                · rw [(i3.2 j hj).1, (i3.2 j hj).2, ← hM2, ← hM1]; exact hNO1.2 j hj
            · rw [if_neg (fun z => c4 ((hkq.2.2.2.2.1 44 (by omega) (by omega)).mp z)), if_neg c4, q_Mo_by_292, if_pos (by decide), q_Mo_by_306, zq_pbd_ok]
              obtain ⟨g, rfl⟩ : ∃ g, f = g + 1 := ⟨f - 1, by omega⟩
              rw [q_Mo_by_25, if_pos (by decide)]
              obtain ⟨ny1, ny2⟩ := zq_r_need hMB2 f2 (v := 41) (v' := 41) (by decide) (hkq.2.2.2.2.1 41 (by omega) (by omega)) (by omega)
              show (∀ q9 ns9, zq_pbd (zq_pTake T n 41 q) _ = _ → _) ∧ (∀ e, zq_pbd (zq_pTake T n 41 q) _ = _ → _)
              cases hq3 : zq_pTake T n 41 q with
              | error e =>
                refine ⟨fun q ns' z => (by cases z), fun e' z => ?_⟩
                cases z
                exact zq_FL_KF (zq_FL_bind (ny2 e hq3) zq_f01) hK2
              | ok q3 =>
                refine ⟨fun q9 ns9 z => ?_, fun e z => (by cases z)⟩
                rw [zq_pbd_ok] at z
                cases z
                obtain ⟨y, g1, g2, g3⟩ := ny1 q3 hq3
                have em : zq_mxs M2 (zq_mk (zq_tK T n q3)) (zq_tA T n q3) (zq_tB T n q3) y = zq_mxs (zq_mnw M (aU M.m_tableNames P ((ns.length : Int) + 1)) (aU M.m_nameFroms (6 * P + ns.length) (zq_tA T n p)) (aU M.m_nameLengths (6 * P + ns.length) (zq_tB T n p - zq_tA T n p))) (zq_mk (zq_tK T n q3)) (zq_tA T n q3) (zq_tB T n q3) y := by
                  rw [← hM2, ← hM1]; rfl
                rw [em] at g1 g2
                refine ⟨_, _, _, y, ?_, g2, hNO1, by rw [hM1]; exact hNX1, ho1⟩
                rw [zq_mb2_eq g1]; rfl
      · have ep : zq_pbd (zq_pNames T n (m + 1) ns p) (fun y => zq_pbd (zq_pTake T n 41 y.1) (fun q => Except.ok (q, y.2))) = .error (2, zq_tA T n p) := by
          rw [zq_pNames, if_neg c1]; rfl
        rw [ep, e0, if_neg c1, hp.2.2.1]
        refine ⟨fun q ns' z => (by cases z), fun e z => ?_⟩
        cases z
        exact zq_r_flaw2 h.2.2.2.2.1.1 2 _
set_option maxRecDepth 100000 in
theorem zq_r_match {T : Int → Int} {n w : Int} {M : MS} {p : Int} (h : zq_MB T n w M) (hp : zq_MP T n M p) : (∀ y, zq_pMatch T n p = .ok y → ∃ x, s_Mo_match M = some (1, zq_mxs M (zq_mk (zq_tK T n y.1)) (zq_tA T n y.1) (zq_tB T n y.1) x) ∧ zq_MP T n (zq_mxs M (zq_mk (zq_tK T n y.1)) (zq_tA T n y.1) (zq_tB T n y.1) x) y.1 ∧ zq_tA T n p + 1 ≤ zq_tA T n y.1) ∧ (∀ e, zq_pMatch T n p = .error e → zq_FL M e (s_Mo_match M)) := by
  have hT := zq_MB_T h
  have hk := zq_mk_iff (zq_tK_set T n p)
  obtain ⟨a1, a2⟩ := zq_r_need h hp (v := 303) (v' := 2) (by decide) hk.2.2.1 (by omega)
  unfold zq_pMatch
  rw [s_Mo_match]
  cases hq : zq_pTake T n 303 p with
  | error e =>
    refine ⟨fun y z => (by cases z), fun e' z => ?_⟩
    cases z
    exact zq_FL_bind (a2 e hq) (fun S => by rw [if_pos (by decide)])
  | ok q =>
    obtain ⟨x, f1, f2, f3, f4⟩ := a1 q hq
    rw [zq_mb2_eq f1, if_neg (by decide), zq_pbd_ok]
    generalize hM2 : zq_mxs M (zq_mk (zq_tK T n q)) (zq_tA T n q) (zq_tB T n q) x = M2 at *
    have hMB2 : zq_MB T n w M2 := by rw [← hM2]; exact h
    have hK2 : zq_KF M M2 := by rw [← hM2]; rfl
    have hkq := zq_mk_iff (zq_tK_set T n q)
    rw [f2.2.1, zq_w32i (z := zq_mk (zq_tK T n q)) (by omega) (by omega)]
    have gq := zq_tA_ge T n q
    have Rp := (zq_tok_R hT hp.1.1 hp.1.2.1).2.1 (by omega)
    have go : zq_isMS (zq_tK T n q) = true → (if zq_mk (zq_tK T n q) = 61 then q_Mo_match_39 M2 else if 256 ≤ zq_mk (zq_tK T n q) then q_Mo_match_39 M2 else mb2 (s_Mo_flaw M2 2 M2.m_from) (fun r19 S19 => if r19 = 0 ∨ r19 = 1 then some (r19, S19) else none)) = q_Mo_match_39 M2 := by
      intro z
      unfold zq_isMS at z; simp at z
      rcases z with z | z
      · rw [if_pos ((hkq.2.2.2.2.1 61 (by omega) (by omega)).mpr z)]
      · rw [if_neg (fun y => by have := (hkq.2.2.2.2.1 61 (by omega) (by omega)).mp y; omega), if_pos (hkq.2.2.2.2.2.1.mpr (by omega))]
    by_cases c1 : zq_isMS (zq_tK T n q) = true
    · rw [go c1, if_pos c1, q_Mo_match_39]
      obtain ⟨b1, b2⟩ := zq_r_next hMB2 f2
      cases hr : zq_pAdv T n q with
      | error e =>
        refine ⟨fun y z => (by cases z), fun e' z => ?_⟩
        cases z
        exact zq_FL_KF (zq_FL_bind (b2 e hr) (fun S => by rw [if_pos (by decide)])) hK2
      | ok r =>
        obtain ⟨x2, g1, g2, g3⟩ := b1 r hr
        rw [zq_mb2_eq g1, if_neg (by decide), zq_pbd_ok]
        generalize hM3 : zq_mxs M2 (zq_mk (zq_tK T n r)) (zq_tA T n r) (zq_tB T n r) x2 = M3 at *
        have hMB3 : zq_MB T n w M3 := by rw [← hM3]; exact hMB2
        have hK3 : zq_KF M M3 := by rw [← hM3]; exact hK2
        have hkr := zq_mk_iff (zq_tK_set T n r)
        have gr := zq_tA_ge T n r
        obtain ⟨d1, d2⟩ := zq_r_need hMB3 g2 (v := 304) (v' := 3) (by decide) hkr.2.2.2.1 (by omega)
        cases hs : zq_pTake T n 304 r with
        | error e =>
          refine ⟨fun y z => (by cases z), fun e' z => ?_⟩
          cases z
          exact zq_FL_KF (zq_FL_bind (d2 e hs) (fun S => by rw [if_pos (by decide)])) hK3
        | ok s =>
          obtain ⟨x3, i1, i2, i3, i4⟩ := d1 s hs
          refine ⟨fun y z => ?_, fun e z => (by cases z)⟩
          rw [zq_pbd_ok] at z
          cases z
          have gs := zq_tA_ge T n s
          have Rq := (zq_tok_R hT f2.1.1 f2.1.2.1).2.1 (by unfold zq_isMS at c1; simp at c1; omega)
          have Rr := (zq_tok_R hT g2.1.1 g2.1.2.1).2.1 (by omega)
          refine ⟨x3, ?_, ?_, ?_⟩
          · rw [zq_mb2_eq i1, if_neg (by decide), ← hM3, ← hM2]; rfl
          · have := i2; rw [← hM3, ← hM2] at this; exact this
          · show zq_tA T n p + 1 ≤ zq_tA T n s; omega
    · rw [if_neg c1]
      refine ⟨fun y z => (by cases z), fun e z => ?_⟩
      cases z
      have n1 : ¬ zq_mk (zq_tK T n q) = 61 := fun z => c1 (by rw [(hkq.2.2.2.2.1 61 (by omega) (by omega)).mp z]; decide)
      have n2 : ¬ 256 ≤ zq_mk (zq_tK T n q) := fun z => by
        have := hkq.2.2.2.2.2.1.mp z
        have f3' := f2.1.2.2
        refine c1 ?_
        unfold zq_isMS
        simp
        omega
      rw [if_neg n1, if_neg n2, f2.2.2.1]
      exact zq_FL_KF (zq_r_flaw2 hMB2.2.2.2.2.1.1 2 _) hK2
set_option maxRecDepth 100000 in
/-- the end of a function's call -/
def zq_fin41 (v1 v2 : Int) (S : MS) : Option (Int × MS) := if w32 S.m_kind = 41 then if w32 S.m_works = 0 then q_Mo_called_166 S else mb2 (s_Mo_reckon S v1 v2) (fun r39 S39 => q_Mo_called_166 S39) else mb2 (s_Mo_flaw S 2 S.m_from) (fun r40 S40 => if r40 = 0 ∨ r40 = 1 then some (r40, S40) else none)
set_option maxRecDepth 100000 in
theorem zq_E_called0 {T : Int → Int} {n w : Int} {M : MS} {p : Int} (h : zq_MB T n w M) (hp : zq_MP T n M p) (v1 v2 : Int) (f : Nat) : (∀ q, zq_pTake T n 125 p = .ok q → ∃ x, q_Mo_called_82 (f + 1) v1 v2 0 M = zq_fin41 v1 v2 (zq_mxs M (zq_mk (zq_tK T n q)) (zq_tA T n q) (zq_tB T n q) x) ∧ zq_MP T n (zq_mxs M (zq_mk (zq_tK T n q)) (zq_tA T n q) (zq_tB T n q) x) q) ∧ (∀ e, zq_pTake T n 125 p = .error e → zq_FL M e (q_Mo_called_82 (f + 1) v1 v2 0 M)) := by
  have hk := zq_mk_iff (zq_tK_set T n p)
  obtain ⟨a1, a2⟩ := zq_r_need h hp (v := 125) (v' := 125) (by decide) (hk.2.2.2.2.1 125 (by omega) (by omega)) (by omega)
  rw [q_Mo_called_82, if_pos (by decide)]
  refine ⟨fun q hq => ?_, fun e he => zq_FL_bind (a2 e he) (fun S => by rw [if_pos (by decide)])⟩
  obtain ⟨x, f1, f2, f3, f4⟩ := a1 q hq
  exact ⟨x, by rw [zq_mb2_eq f1, if_neg (by decide)]; rfl, f2⟩
set_option maxRecDepth 100000 in
theorem zq_E_called1 {T : Int → Int} {n w : Int} (v1 v2 : Int) : ∀ (m f : Nat) (M : MS) (ms : List zq_MT) (p : Int), zq_MB T n w M → zq_MP T n M p → n - zq_tA T n p ≤ m → m + 1 < f →
    (∀ q, zq_pbd (zq_pMatches T n m ms p) (fun y => zq_pTake T n 125 y.1) = .ok q → ∃ x, q_Mo_called_82 f v1 v2 1 M = zq_fin41 v1 v2 (zq_mxs M (zq_mk (zq_tK T n q)) (zq_tA T n q) (zq_tB T n q) x) ∧ zq_MP T n (zq_mxs M (zq_mk (zq_tK T n q)) (zq_tA T n q) (zq_tB T n q) x) q) ∧
    (∀ e, zq_pbd (zq_pMatches T n m ms p) (fun y => zq_pTake T n 125 y.1) = .error e → zq_FL M e (q_Mo_called_82 f v1 v2 1 M))
  | m, 0, M, ms, p => by omega
  | m, f + 1, M, ms, p => by
    intro h hp hm hf
    have hT := zq_MB_T h
    have R := zq_tok_R hT hp.1.1 hp.1.2.1
    obtain ⟨a1, a2⟩ := zq_r_match h hp
    have e0 : q_Mo_called_82 (f + 1) v1 v2 1 M = mb2 (s_Mo_match M ) (fun r42 S42 => if w32 r42 = 0 then some (0, S42) else if w32 S42.m_kind = 44 then q_Mo_called_109 (q_Mo_called_82 f) v1 v2 1 S42 else q_Mo_called_109 (q_Mo_called_82 f) v1 v2 0 S42) := by
      rw [q_Mo_called_82, if_neg (by decide)]
    rw [e0]
    cases m with
    | zero =>
      have c301 : zq_tK T n p = 301 := by
        by_cases z : zq_tK T n p = 301
        · exact z
        · have := (R.2.1 z).1; omega
      have ep : zq_pbd (zq_pMatches T n 0 ms p) (fun y => zq_pTake T n 125 y.1) = .error (2, zq_tA T n p) := by
        rw [zq_pMatches, zq_pbd_ok]
        show zq_pTake T n 125 p = _
        rw [zq_pTake, if_neg (by omega)]
      have em : zq_pMatch T n p = .error (2, zq_tA T n p) := by
        unfold zq_pMatch zq_pTake; rw [if_neg (by omega)]; rfl
      rw [ep]
      refine ⟨fun q z => (by cases z), fun e z => ?_⟩
      cases z
      exact zq_FL_bind (a2 _ em) (fun S => by rw [if_pos (by decide)])
    | succ m =>
      rw [zq_pMatches]
      cases hy : zq_pMatch T n p with
      | error e =>
        refine ⟨fun q z => (by cases z), fun e' z => ?_⟩
        cases z
        exact zq_FL_bind (a2 e hy) (fun S => by rw [if_pos (by decide)])
      | ok y =>
        obtain ⟨x, f1, f2, f3⟩ := a1 y hy
        rw [zq_mb2_eq f1, if_neg (by decide), zq_pbd_ok]
        generalize hM2 : zq_mxs M (zq_mk (zq_tK T n y.1)) (zq_tA T n y.1) (zq_tB T n y.1) x = M2 at *
        have hMB2 : zq_MB T n w M2 := by rw [← hM2]; exact h
        have hK2 : zq_KF M M2 := by rw [← hM2]; rfl
        have hky := zq_mk_iff (zq_tK_set T n y.1)
        rw [f2.2.1, zq_w32i (z := zq_mk (zq_tK T n y.1)) (by omega) (by omega)]
        by_cases c4 : zq_tK T n y.1 = 44
        · rw [if_pos ((hky.2.2.2.2.1 44 (by omega) (by omega)).mpr c4), if_pos c4, q_Mo_called_109, if_neg (by decide)]
          obtain ⟨b1, b2⟩ := zq_r_next hMB2 f2
          cases hr : zq_pAdv T n y.1 with
          | error e =>
            refine ⟨fun q z => (by cases z), fun e' z => ?_⟩
            cases z
            exact zq_FL_KF (zq_FL_bind (b2 e hr) (fun S => by rw [if_pos (by decide)])) hK2
          | ok r =>
            obtain ⟨x2, g1, g2, g3⟩ := b1 r hr
            rw [zq_mb2_eq g1, if_neg (by decide), zq_pbd_ok]
            have Ry := (zq_tok_R hT f2.1.1 f2.1.2.1).2.1 (by omega)
            have gr := zq_tA_ge T n r
            have IH := zq_E_called1 v1 v2 m f (zq_mxs M2 (zq_mk (zq_tK T n r)) (zq_tA T n r) (zq_tB T n r) x2) (ms ++ [y.2]) r hMB2 g2 (by omega) (by omega)
            refine ⟨fun q z => ?_, fun e z => zq_FL_KF (IH.2 e z) hK2⟩
            obtain ⟨x3, i1, i2⟩ := IH.1 q z
            rw [show zq_mxs (zq_mxs M2 (zq_mk (zq_tK T n r)) (zq_tA T n r) (zq_tB T n r) x2) (zq_mk (zq_tK T n q)) (zq_tA T n q) (zq_tB T n q) x3 = zq_mxs M (zq_mk (zq_tK T n q)) (zq_tA T n q) (zq_tB T n q) x3 by rw [← hM2]; rfl] at i1 i2
            exact ⟨x3, i1, i2⟩
        · rw [if_neg (fun z => c4 ((hky.2.2.2.2.1 44 (by omega) (by omega)).mp z)), if_neg c4, q_Mo_called_109, if_pos (by decide), zq_pbd_ok]
          obtain ⟨g, rfl⟩ : ∃ g, f = g + 1 := ⟨f - 1, by omega⟩
          obtain ⟨b1, b2⟩ := zq_E_called0 hMB2 f2 v1 v2 g
          refine ⟨fun q z => ?_, fun e z => zq_FL_KF (b2 e z) hK2⟩
          obtain ⟨x3, i1, i2⟩ := b1 q z
          rw [show zq_mxs M2 (zq_mk (zq_tK T n q)) (zq_tA T n q) (zq_tB T n q) x3 = zq_mxs M (zq_mk (zq_tK T n q)) (zq_tA T n q) (zq_tB T n q) x3 by rw [← hM2]; rfl] at i1 i2
          exact ⟨x3, i1, i2⟩
set_option maxRecDepth 100000 in
/-- the selection of a function, up to the closing bracket -/
def zq_pSel1 (T : Int → Int) (n p : Int) : zq_PR (Int × Int × List zq_MT) := zq_pbd (zq_pTake T n 40 p) (fun q0 => zq_pbd (zq_pTake T n 123 q0) (fun q1 => zq_pbd (if zq_tK T n q1 = 125 then .ok (q1, []) else zq_pMatches T n n.toNat [] q1) (fun y => zq_pbd (zq_pTake T n 125 y.1) (fun q => .ok (q, zq_tB T n q0, y.2)))))
set_option maxRecDepth 100000 in
theorem zq_pSel_1 (T : Int → Int) (n p : Int) : zq_pSel T n p = zq_pbd (zq_pSel1 T n p) (fun z => zq_pbd (zq_pTake T n 41 z.1) (fun q => .ok (q, z.2))) := by
  unfold zq_pSel zq_pSel1
  cases zq_pTake T n 40 p with
  | error e => rfl
  | ok q0 =>
    rw [zq_pbd_ok, zq_pbd_ok]
    cases zq_pTake T n 123 q0 with
    | error e => rfl
    | ok q1 =>
      rw [zq_pbd_ok, zq_pbd_ok]
      cases (if zq_tK T n q1 = 125 then Except.ok (q1, []) else zq_pMatches T n n.toNat [] q1) with
      | error e => rfl
      | ok y =>
        rw [zq_pbd_ok, zq_pbd_ok]
        cases zq_pTake T n 125 y.1 with
        | error e => rfl
        | ok q => rfl
set_option maxRecDepth 100000 in
theorem zq_r_sel {T : Int → Int} {n w : Int} {M : MS} {p : Int} (h : zq_MB T n w M) (hp : zq_MP T n M p) (v1 : Int) : (∀ z, zq_pSel1 T n p = .ok z → ∃ x, q_Mo_called_40 v1 M = zq_fin41 v1 z.2.1 (zq_mxs M (zq_mk (zq_tK T n z.1)) (zq_tA T n z.1) (zq_tB T n z.1) x) ∧ zq_MP T n (zq_mxs M (zq_mk (zq_tK T n z.1)) (zq_tA T n z.1) (zq_tB T n z.1) x) z.1) ∧ (∀ e, zq_pSel1 T n p = .error e → zq_FL M e (q_Mo_called_40 v1 M)) := by
  have hT := zq_MB_T h
  have hn := h.2.2.2.1
  have hk := zq_mk_iff (zq_tK_set T n p)
  have hn0 : 0 ≤ n := by have := hp.1; omega
  obtain ⟨a1, a2⟩ := zq_r_need h hp (v := 40) (v' := 40) (by decide) (hk.2.2.2.2.1 40 (by omega) (by omega)) (by omega)
  unfold zq_pSel1
  rw [q_Mo_called_40]
  cases hq : zq_pTake T n 40 p with
  | error e =>
    refine ⟨fun y z => (by cases z), fun e' z => ?_⟩
    cases z
    exact zq_FL_bind (a2 e hq) (fun S => by rw [if_pos (by decide)])
  | ok q =>
    obtain ⟨x, f1, f2, f3, f4⟩ := a1 q hq
    rw [zq_mb2_eq f1, if_neg (by decide), zq_pbd_ok]
    generalize hM2 : zq_mxs M (zq_mk (zq_tK T n q)) (zq_tA T n q) (zq_tB T n q) x = M2 at *
    have hMB2 : zq_MB T n w M2 := by rw [← hM2]; exact h
    have hK2 : zq_KF M M2 := by rw [← hM2]; rfl
    have hkq := zq_mk_iff (zq_tK_set T n q)
    obtain ⟨b1, b2⟩ := zq_r_need hMB2 f2 (v := 123) (v' := 123) (by decide) (hkq.2.2.2.2.1 123 (by omega) (by omega)) (by omega)
    cases hr : zq_pTake T n 123 q with
    | error e =>
      refine ⟨fun y z => (by cases z), fun e' z => ?_⟩
      cases z
      exact zq_FL_KF (zq_FL_bind (b2 e hr) (fun S => by rw [if_pos (by decide)])) hK2
    | ok r =>
      obtain ⟨x2, g1, g2, g3, g4⟩ := b1 r hr
      rw [zq_mb2_eq g1, if_neg (by decide), zq_pbd_ok]
      generalize hM3 : zq_mxs M2 (zq_mk (zq_tK T n r)) (zq_tA T n r) (zq_tB T n r) x2 = M3 at *
      have hMB3 : zq_MB T n w M3 := by rw [← hM3]; exact hMB2
      have hK3 : zq_KF M M3 := by rw [← hM3]; exact hK2
      have hkr := zq_mk_iff (zq_tK_set T n r)
      rw [g2.2.1, zq_w32i (z := zq_mk (zq_tK T n r)) (by omega) (by omega), f2.2.2.2.1]
      have em3 : ∀ k f t x, zq_mxs M3 k f t x = zq_mxs M k f t x := fun k f t x => by rw [← hM3, ← hM2]; rfl
      by_cases c1 : zq_tK T n r = 125
      · rw [if_pos ((hkr.2.2.2.2.1 125 (by omega) (by omega)).mpr c1), if_pos c1, zq_pbd_ok, q_Mo_called_81]
        obtain ⟨d1, d2⟩ := zq_E_called0 hMB3 g2 v1 (zq_tB T n q) 999999
        show (∀ z, zq_pbd (zq_pTake T n 125 r) _ = _ → _) ∧ (∀ e, zq_pbd (zq_pTake T n 125 r) _ = _ → _)
        cases hs : zq_pTake T n 125 r with
        | error e =>
          refine ⟨fun y z => (by cases z), fun e' z => ?_⟩
          cases z
          exact zq_FL_KF (d2 e hs) hK3
        | ok s =>
          refine ⟨fun z hz => ?_, fun e z => (by cases z)⟩
          rw [zq_pbd_ok] at hz; cases hz
          obtain ⟨x3, i1, i2⟩ := d1 s hs
          rw [em3] at i1 i2
          exact ⟨x3, i1, i2⟩
      · rw [if_neg (fun z => c1 ((hkr.2.2.2.2.1 125 (by omega) (by omega)).mp z)), if_neg c1, q_Mo_called_81]
        have gr := zq_tA_ge T n r
        obtain ⟨d1, d2⟩ := zq_E_called1 v1 (zq_tB T n q) n.toNat fU M3 [] r hMB3 g2 (by have := g2.1.1; omega) (zq_fU_gt (by omega))
        cases hy : zq_pMatches T n n.toNat [] r with
        | error e =>
          rw [hy] at d1 d2
          refine ⟨fun y z => (by cases z), fun e' z => ?_⟩
          cases z
          exact zq_FL_KF (d2 e rfl) hK3
        | ok y =>
          rw [hy] at d1 d2
          rw [zq_pbd_ok]
          rw [zq_pbd_ok] at d1 d2
          cases hs : zq_pTake T n 125 y.1 with
          | error e =>
            refine ⟨fun y z => (by cases z), fun e' z => ?_⟩
            cases z
            exact zq_FL_KF (d2 e hs) hK3
          | ok s =>
            refine ⟨fun z hz => ?_, fun e z => (by cases z)⟩
            rw [zq_pbd_ok] at hz; cases hz
            obtain ⟨x3, i1, i2⟩ := d1 s hs
            rw [em3] at i1 i2
            exact ⟨x3, i1, i2⟩
set_option maxRecDepth 100000 in
/-- a function is called -/
theorem zq_r_called {T : Int → Int} {n w : Int} {M : MS} {p : Int} (h : zq_MB T n w M) (hp : zq_MP T n M p) (hP : 0 ≤ M.m_pile ∧ M.m_pile < 20) (v1 kd : Int) :
    (∀ y, zq_pFunc T n kd p = .ok y → ∃ q41 q0 ns ms a b c x, y.2 = [((310 : Int), ll 0, kd, q0, ns, ms)] ∧ zq_tK T n q41 = 41 ∧ zq_pAdv T n q41 = .ok y.1 ∧ zq_okN n ns ∧ zq_NO M M.m_pile a b c ∧ zq_NX (zq_mnw M a b c) M.m_pile ns ∧ zq_MP T n (zq_mxs (zq_mnw M a b c) 41 (zq_tA T n q41) (zq_tB T n q41) x) q41 ∧
      s_Mo_called M v1 = (if w = 0 then q_Mo_called_166 (zq_mxs (zq_mnw M a b c) 41 (zq_tA T n q41) (zq_tB T n q41) x) else mb2 (s_Mo_reckon (zq_mxs (zq_mnw M a b c) 41 (zq_tA T n q41) (zq_tB T n q41) x) v1 q0) (fun r39 S39 => q_Mo_called_166 S39))) ∧
    (∀ e, w = 0 → zq_pFunc T n kd p = .error e → zq_FL M e (s_Mo_called M v1)) := by
  have hT := zq_MB_T h
  have hn := h.2.2.2.1
  have hn0 : 0 ≤ n := by have := hp.1; omega
  rw [s_Mo_called, if_pos hP]
  generalize hM1 : MS.w_m_tableNames M (aU M.m_tableNames M.m_pile 0) = M1
  have hMB1 : zq_MB T n w M1 := by rw [← hM1]; exact h
  have hMP1 : zq_MP T n M1 p := by rw [← hM1]; exact hp
  have hK1 : zq_KF M M1 := by rw [← hM1]; rfl
  have hpile : M1.m_pile = M.m_pile := by rw [← hM1]
  have hNX1 : zq_NX M1 M.m_pile [] := by
    rw [← hM1]
    refine ⟨?_, fun i x hx => by simp at hx⟩
    show aU M.m_tableNames M.m_pile 0 M.m_pile = _
    rw [zq_aU_at]; rfl
  have hNO1 : zq_NO M M.m_pile M1.m_tableNames M1.m_nameFroms M1.m_nameLengths := by
    rw [← hM1]
    exact ⟨fun j hj => zq_aU_ne _ _ _ _ hj, fun j hj => ⟨rfl, rfl⟩⟩
  unfold zq_pFunc
  obtain ⟨a1, a2⟩ := zq_r_next hMB1 hMP1
  cases hq : zq_pAdv T n p with
  | error e =>
    refine ⟨fun y z => (by cases z), fun e' _ z => ?_⟩
    cases z
    exact zq_FL_KF (zq_FL_bind (a2 e hq) (fun S => by rw [if_pos (by decide)])) hK1
  | ok q =>
    obtain ⟨x, f1, f2, f3⟩ := a1 q hq
    rw [zq_mb2_eq f1, if_neg (by decide), zq_pbd_ok]
    generalize hM2 : zq_mxs M1 (zq_mk (zq_tK T n q)) (zq_tA T n q) (zq_tB T n q) x = M2 at *
    have hMB2 : zq_MB T n w M2 := by rw [← hM2]; exact hMB1
    have hK2 : zq_KF M M2 := by rw [← hM2]; exact hK1
    -- by
    have by_ : (∀ y, zq_pBy T n q = .ok y → ∃ a b c x2, mb2 (s_Mo_isName M2 98 121 32 32 2) (fun r53 S53 => if w32 r53 = 0 then q_Mo_called_40 v1 S53 else mb2 (s_Mo_by S53 ) (fun r55 S55 => if w32 r55 = 0 then some (0, S55) else q_Mo_called_40 v1 S55)) = q_Mo_called_40 v1 (zq_mxs (zq_mnw M a b c) (zq_mk (zq_tK T n y.1)) (zq_tA T n y.1) (zq_tB T n y.1) x2) ∧ zq_MP T n (zq_mxs (zq_mnw M a b c) (zq_mk (zq_tK T n y.1)) (zq_tA T n y.1) (zq_tB T n y.1) x2) y.1 ∧ zq_NO M M.m_pile a b c ∧ zq_NX (zq_mnw M a b c) M.m_pile y.2 ∧ zq_okN n y.2) ∧ (∀ e, zq_pBy T n q = .error e → zq_FL M e (mb2 (s_Mo_isName M2 98 121 32 32 2) (fun r53 S53 => if w32 r53 = 0 then q_Mo_called_40 v1 S53 else mb2 (s_Mo_by S53 ) (fun r55 S55 => if w32 r55 = 0 then some (0, S55) else q_Mo_called_40 v1 S55)))) := by
      rw [zq_mb2_eq (zq_r_isBy hMB2 f2)]
      unfold zq_pBy
      by_cases c1 : zq_wrd T n q = [98, 121]
      · have nb : ¬ w32 (zq_b01 (zq_wrd T n q = [98, 121])) = 0 := by rw [zq_b01_0]; simp [c1]
        rw [if_pos c1, if_neg nb, s_Mo_by]
        obtain ⟨b1, b2⟩ := zq_r_next hMB2 f2
        cases hr : zq_pAdv T n q with
        | error e =>
          refine ⟨fun y z => (by cases z), fun e' z => ?_⟩
          cases z
          exact zq_FL_KF (zq_FL_bind (zq_FL_bind (b2 e hr) (fun S => by rw [if_pos (by decide)])) (fun S => by rw [if_pos (by decide)])) hK2
        | ok r =>
          obtain ⟨x2, g1, g2, g3⟩ := b1 r hr
          rw [zq_pbd_ok, zq_mb2_eq g1, if_neg (by decide)]
          generalize hM3 : zq_mxs M2 (zq_mk (zq_tK T n r)) (zq_tA T n r) (zq_tB T n r) x2 = M3 at *
          have hMB3 : zq_MB T n w M3 := by rw [← hM3]; exact hMB2
          have hK3 : zq_KF M M3 := by rw [← hM3]; exact hK2
          have hkr := zq_mk_iff (zq_tK_set T n r)
          obtain ⟨d1, d2⟩ := zq_r_need hMB3 g2 (v := 40) (v' := 40) (by decide) (hkr.2.2.2.2.1 40 (by omega) (by omega)) (by omega)
          cases hs : zq_pTake T n 40 r with
          | error e =>
            refine ⟨fun y z => (by cases z), fun e' z => ?_⟩
            cases z
            exact zq_FL_KF (zq_FL_bind (zq_FL_bind (d2 e hs) (fun S => by rw [if_pos (by decide)])) (fun S => by rw [if_pos (by decide)])) hK3
          | ok s =>
            obtain ⟨x3, i1, i2, i3, i4⟩ := d1 s hs
            rw [zq_pbd_ok, zq_mb2_eq i1, if_neg (by decide)]
            generalize hM4 : zq_mxs M3 (zq_mk (zq_tK T n s)) (zq_tA T n s) (zq_tB T n s) x3 = M4 at *
            have hMB4 : zq_MB T n w M4 := by rw [← hM4]; exact hMB3
            have hK4 : zq_KF M M4 := by rw [← hM4]; exact hK3
            have hp4 : M2.m_pile = M.m_pile := by rw [← hM2]; exact hpile
            have hNX4 : zq_NX M4 M.m_pile [] := by rw [← hM4, ← hM3, ← hM2]; exact hNX1
            have gs := zq_tA_ge T n s
            rw [hp4]
            obtain ⟨j1, j2⟩ := zq_E_by25 hP n.toNat fU M4 [] s hMB4 i2 hNX4 ⟨by simp, by simp⟩ (by have := i2.1.1; omega) (zq_fU_gt (by omega))
            cases hy : zq_pbd (zq_pNames T n n.toNat [] s) (fun y => zq_pbd (zq_pTake T n 41 y.1) (fun q => Except.ok (q, y.2))) with
            | error e =>
              refine ⟨fun y z => (by cases z), fun e' z => ?_⟩
              cases z
              exact zq_FL_KF (zq_FL_bind (j2 e hy) (fun S => by rw [if_pos (by decide)])) hK4
            | ok y =>
              refine ⟨fun y' z => ?_, fun e z => (by cases z)⟩
              cases z
              obtain ⟨a, b, c, x5, k1, k2, k3, k4, k5⟩ := j1 y.1 y.2 hy
              have em : zq_mxs (zq_mnw M4 a b c) (zq_mk (zq_tK T n y.1)) (zq_tA T n y.1) (zq_tB T n y.1) x5 = zq_mxs (zq_mnw M a b c) (zq_mk (zq_tK T n y.1)) (zq_tA T n y.1) (zq_tB T n y.1) x5 := by
                rw [← hM4, ← hM3, ← hM2, ← hM1]; rfl
              rw [em] at k1 k2
              refine ⟨a, b, c, x5, by rw [zq_mb2_eq k1, if_neg (by decide)], k2, ⟨fun j hj => ?_, fun j hj => ?_⟩, k4, k5⟩
              · rw [k3.1 j hj]; rw [← hM4, ← hM3, ← hM2]; exact hNO1.1 j hj
              · rw [(k3.2 j hj).1, (k3.2 j hj).2, ← hM4, ← hM3, ← hM2]; exact hNO1.2 j hj
      · have nb : w32 (zq_b01 (zq_wrd T n q = [98, 121])) = 0 := by rw [zq_b01_0]; exact c1
        rw [if_neg c1, if_pos nb]
        refine ⟨fun y z => ?_, fun e z => (by cases z)⟩
        cases z
        have em : zq_mxs (zq_mnw M M1.m_tableNames M1.m_nameFroms M1.m_nameLengths) (zq_mk (zq_tK T n q)) (zq_tA T n q) (zq_tB T n q) x = M2 := by rw [← hM2, ← hM1]; rfl
        exact ⟨M1.m_tableNames, M1.m_nameFroms, M1.m_nameLengths, x, by rw [em], by rw [em]; exact f2, hNO1, hNX1, ⟨by simp, by simp⟩⟩
    obtain ⟨by1, by2⟩ := by_
    cases hy : zq_pBy T n q with
    | error e =>
      refine ⟨fun y z => (by cases z), fun e' _ z => ?_⟩
      cases z
      exact by2 e hy
    | ok y =>
      obtain ⟨a, b, c, x2, k1, k2, k3, k4, k5⟩ := by1 y hy
      rw [zq_pbd_ok, k1]
      generalize hM5 : zq_mxs (zq_mnw M a b c) (zq_mk (zq_tK T n y.1)) (zq_tA T n y.1) (zq_tB T n y.1) x2 = M5 at *
      have hMB5 : zq_MB T n w M5 := by rw [← hM5]; exact h
      have hK5 : zq_KF M M5 := by rw [← hM5]; rfl
      obtain ⟨s1, s2⟩ := zq_r_sel hMB5 k2 v1
      rw [zq_pSel_1]
      cases hz : zq_pSel1 T n y.1 with
      | error e =>
        refine ⟨fun y z => (by cases z), fun e' _ z => ?_⟩
        cases z
        exact zq_FL_KF (s2 e hz) hK5
      | ok z =>
        obtain ⟨x3, u1, u2⟩ := s1 z hz
        rw [zq_pbd_ok, u1]
        have em : zq_mxs M5 (zq_mk (zq_tK T n z.1)) (zq_tA T n z.1) (zq_tB T n z.1) x3 = zq_mxs (zq_mnw M a b c) (zq_mk (zq_tK T n z.1)) (zq_tA T n z.1) (zq_tB T n z.1) x3 := by rw [← hM5]; rfl
        rw [em] at u2 ⊢
        have hkz := zq_mk_iff (zq_tK_set T n z.1)
        have hMB6 : zq_MB T n w (zq_mxs (zq_mnw M a b c) (zq_mk (zq_tK T n z.1)) (zq_tA T n z.1) (zq_tB T n z.1) x3) := h
        have fk : zq_fin41 v1 z.2.1 (zq_mxs (zq_mnw M a b c) (zq_mk (zq_tK T n z.1)) (zq_tA T n z.1) (zq_tB T n z.1) x3) = if zq_tK T n z.1 = 41 then (if w = 0 then q_Mo_called_166 (zq_mxs (zq_mnw M a b c) (zq_mk (zq_tK T n z.1)) (zq_tA T n z.1) (zq_tB T n z.1) x3) else mb2 (s_Mo_reckon (zq_mxs (zq_mnw M a b c) (zq_mk (zq_tK T n z.1)) (zq_tA T n z.1) (zq_tB T n z.1) x3) v1 z.2.1) (fun r39 S39 => q_Mo_called_166 S39)) else mb2 (s_Mo_flaw (zq_mxs (zq_mnw M a b c) (zq_mk (zq_tK T n z.1)) (zq_tA T n z.1) (zq_tB T n z.1) x3) 2 (zq_tA T n z.1)) (fun r40 S40 => if r40 = 0 ∨ r40 = 1 then some (r40, S40) else none) := by
          unfold zq_fin41
          show (if w32 (zq_mk (zq_tK T n z.1)) = 41 then (if w32 M.m_works = 0 then _ else _) else _) = _
          rw [zq_w32i (z := zq_mk (zq_tK T n z.1)) (by omega) (by omega), show M.m_works = w from h.2.2.2.2.2.1, zq_w32i (z := w) (by have := h.2.2.2.2.2.2; omega) (by have := h.2.2.2.2.2.2; omega)]
          by_cases c1 : zq_tK T n z.1 = 41
          · rw [if_pos c1, if_pos ((hkz.2.2.2.2.1 41 (by omega) (by omega)).mpr c1)]
          · rw [if_neg c1, if_neg (fun y => c1 ((hkz.2.2.2.2.1 41 (by omega) (by omega)).mp y))]; rfl
        rw [fk]
        show (∀ y_1, zq_pbd (zq_pbd (zq_pTake T n 41 z.1) _) _ = _ → _) ∧ (∀ e, _ → zq_pbd (zq_pbd (zq_pTake T n 41 z.1) _) _ = _ → _)
        unfold zq_pTake
        by_cases c1 : zq_tK T n z.1 = 41
        · rw [if_pos c1, if_pos c1]
          have em2 : zq_mk (zq_tK T n z.1) = 41 := (hkz.2.2.2.2.1 41 (by omega) (by omega)).mpr c1
          refine ⟨fun y9 hy9 => ?_, fun e hw he => ?_⟩
          · cases ha : zq_pAdv T n z.1 with
            | error e => rw [ha] at hy9; cases hy9
            | ok q9 =>
              rw [ha, zq_pbd_ok, zq_pbd_ok] at hy9
              cases hy9
              rw [em2] at u2 ⊢
              exact ⟨z.1, z.2.1, y.2, z.2.2, a, b, c, x3, rfl, c1, ha, k5, k3, k4, u2, rfl⟩
          · rw [if_pos hw]
            obtain ⟨n1, n2⟩ := zq_r_next2 hMB6 u2
            cases ha : zq_pAdv T n z.1 with
            | error e' =>
              rw [ha] at he
              cases he
              exact zq_FL_KF (n2 e ha) rfl
            | ok q9 => rw [ha] at he; cases he
        · rw [if_neg c1, if_neg c1]
          refine ⟨fun y9 hy9 => (by cases hy9), fun e hw he => ?_⟩
          cases he
          exact zq_FL_KF (zq_r_flaw2 hMB6.2.2.2.2.1.1 2 _) rfl
/-! the reference's stack of signs, over any meaning of the orders -/
set_option maxRecDepth 100000 in
def zq_mq (M : MS) (k f t : Int) (x : Int64) (sg sp : Int → Int) (sc op wa : Int) : MS := MS.w_m_wants (MS.w_m_open (MS.w_m_signCount (MS.w_m_signPlaces (MS.w_m_signs (zq_mxs M k f t x) sg) sp) sc) op) wa
set_option maxRecDepth 100000 in
abbrev zq_SG : Type := Int × Int
set_option maxRecDepth 100000 in
def zq_MSt (M : MS) (st : List zq_SG) : Prop := M.m_signCount = st.length ∧ ∀ (i : Nat) (x : zq_SG), st[i]? = some x → M.m_signs i = x.1 ∧ M.m_signPlaces i = x.2
set_option maxRecDepth 100000 in
def zq_AF (M M' : MS) : Prop := zq_pl M' = zq_pl M ∧ zq_KF M M' ∧ M'.m_faultCode = M.m_faultCode ∧ M'.m_faultPlace = M.m_faultPlace
set_option maxRecDepth 100000 in
theorem zq_pl_1 {M M' : MS} (h : zq_pl M' = zq_pl M) : M'.m_kind = M.m_kind ∧ M'.m_from = M.m_from ∧ M'.m_to = M.m_to ∧ M'.m_amount = M.m_amount ∧ M'.m_signs = M.m_signs ∧ M'.m_signPlaces = M.m_signPlaces ∧ M'.m_signCount = M.m_signCount ∧ M'.m_open = M.m_open ∧ M'.m_wants = M.m_wants := by
  unfold zq_pl at h
  simp only [Prod.mk.injEq] at h
  exact h
set_option maxRecDepth 100000 in
theorem zq_kf_1 {M M' : MS} (h : zq_KF M M') : M'.m_tape = M.m_tape ∧ M'.m_length = M.m_length ∧ M'.m_works = M.m_works := by
  unfold zq_KF zq_kf at h
  simp only [Prod.mk.injEq] at h
  exact ⟨h.1, h.2.1, h.2.2.2.2.2.2.2.2.2.2.2.2.2.2.2.2.2.2.2.2.1⟩
set_option maxRecDepth 100000 in
theorem zq_KF_tr {M M1 M2 : MS} (h1 : zq_KF M M1) (h2 : zq_KF M1 M2) : zq_KF M M2 := by unfold zq_KF at *; rw [h2, h1]
set_option maxRecDepth 100000 in
theorem zq_MB_KF {T : Int → Int} {n w : Int} {M M' : MS} (h : zq_MB T n w M) (hk : zq_KF M M') (hf : M'.m_faultCode = 0 ∧ M'.m_faultPlace = 0) : zq_MB T n w M' := by
  obtain ⟨e1, e2, e3⟩ := zq_kf_1 hk
  obtain ⟨h1, h2, h3, h4, h5, h6, h7⟩ := h
  refine ⟨?_, ?_, by rw [e2]; exact h3, h4, hf, by rw [e3]; exact h6, h7⟩
  · unfold zq_moI; rw [e1, e2]; exact h1
  · rw [← h2]; funext i; unfold zq_mby; rw [e1, e2]
set_option maxRecDepth 100000 in
theorem zq_MB_AF {T : Int → Int} {n w : Int} {M M' : MS} (h : zq_MB T n w M) (ha : zq_AF M M') : zq_MB T n w M' := zq_MB_KF h ha.2.1 (by rw [ha.2.2.1, ha.2.2.2]; exact h.2.2.2.2.1)
set_option maxRecDepth 100000 in
theorem zq_MP_pl {T : Int → Int} {n : Int} {M M' : MS} {p : Int} (h : zq_MP T n M p) (e : M'.m_kind = M.m_kind ∧ M'.m_from = M.m_from ∧ M'.m_to = M.m_to ∧ M'.m_amount = M.m_amount) : zq_MP T n M' p := by
  obtain ⟨h1, h2, h3, h4, h5⟩ := h
  exact ⟨h1, by rw [e.1]; exact h2, by rw [e.2.1]; exact h3, by rw [e.2.2.1]; exact h4, by rw [e.2.2.2]; exact h5⟩
set_option maxRecDepth 100000 in
def zq_rk (g : Int) : Int := if g = 43 ∨ g = 45 then 1 else if g = 42 ∨ g = 47 ∨ g = 37 then 2 else if g = 109 then 3 else 0
set_option maxRecDepth 100000 in
theorem zq_r_rank {g : Int} (h : 0 ≤ g ∧ g ≤ 400) : s_Mo_rank g = some (zq_rk g) := by
  rw [s_Mo_rank, zq_w32i (z := g) (by omega) (by omega)]
  unfold zq_rk q_Mo_rank_12 q_Mo_rank_34
  by_cases c1 : g = 43
  · simp [c1]
  by_cases c2 : g = 45
  · simp [c2]
  by_cases c3 : g = 42
  · simp [c3]
  by_cases c4 : g = 47
  · simp [c4]
  by_cases c5 : g = 37
  · simp [c5]
  by_cases c6 : g = 109
  · simp [c6]
  simp [c1, c2, c3, c4, c5, c6]
set_option maxRecDepth 100000 in
def zq_popOp (x : zq_SG) : zq_Od := if x.1 = 109 then ((311 : Int), ll 0, 0, 0, [], []) else (x.1, ll 0, x.2, 0, [], [])
set_option maxRecDepth 100000 in
def zq_rO {σ : Type} (stp : σ → zq_Od → zq_PR σ) : List zq_Od → σ → zq_PR σ
  | [], s => .ok s
  | o :: r, s => zq_pbd (stp s o) (zq_rO stp r)
set_option maxRecDepth 100000 in
theorem zq_rO_app {σ : Type} (stp : σ → zq_Od → zq_PR σ) : ∀ (a b : List zq_Od) (s : σ), zq_rO stp (a ++ b) s = zq_pbd (zq_rO stp a s) (zq_rO stp b)
  | [], b, s => rfl
  | o :: r, b, s => by
    show zq_pbd (stp s o) (zq_rO stp (r ++ b)) = zq_pbd (zq_pbd (stp s o) (zq_rO stp r)) (zq_rO stp b)
    cases stp s o with
    | error e => rfl
    | ok s1 => rw [zq_pbd_ok, zq_pbd_ok, zq_rO_app stp r b s1]
set_option maxRecDepth 100000 in
/-- a function's record that a question holds -/
def zq_OkF (T : Int → Int) (n kd q0 : Int) (ns : List zq_NM) (ms : List zq_MT) : Prop := ∃ p y, (0 ≤ p ∧ p ≤ n) ∧ zq_fnK T n p = kd ∧ kd ≠ -1 ∧ zq_pFunc T n kd p = .ok y ∧ y.2 = [((310 : Int), ll 0, kd, q0, ns, ms)]
set_option maxRecDepth 100000 in
def zq_bsg (g : Int) : Prop := g = 43 ∨ g = 45 ∨ g = 42 ∨ g = 47 ∨ g = 37
set_option maxRecDepth 100000 in
/-- a meaning of the orders, for the reference -/
def zq_SEM (T : Int → Int) (n w : Int) {σ : Type} (J : MS → σ → Prop) (stp : σ → zq_Od → zq_PR σ) (ht : σ → Nat) : Prop :=
  (∀ M s k f t x sg sp sc op wa, J M s → J (zq_mq M k f t x sg sp sc op wa) s) ∧
  (∀ M s, J M s → 0 ≤ M.m_pile ∧ M.m_pile ≤ ht s) ∧
  (∀ M s, zq_MB T n w M → J M s → ht s ≤ 18 → ∃ s' M', stp s ((302 : Int), M.m_amount, 0, 0, [], []) = .ok s' ∧ ht s' = ht s + 1 ∧ J M' s' ∧ zq_AF M M' ∧ (∀ K : MS → Option (Int × MS), (if w32 M.m_works = 0 then K M else mb2 (s_Mo_number M) (fun _ S => K S)) = K M')) ∧
  (∀ M s a b c k f t x q0 ns ms kd, zq_MB T n w M → J M s → ht s ≤ 18 → zq_NO M M.m_pile a b c → zq_NX (zq_mnw M a b c) M.m_pile ns → zq_okN n ns → zq_OkF T n kd q0 ns ms → ∃ s' M', stp s ((310 : Int), ll 0, kd, q0, ns, ms) = .ok s' ∧ ht s' = ht s + 1 ∧ J M' s' ∧ zq_AF (zq_mxs (zq_mnw M a b c) k f t x) M' ∧ (∀ K : MS → Option (Int × MS), (if w = 0 then K (zq_mxs (zq_mnw M a b c) k f t x) else mb2 (s_Mo_reckon (zq_mxs (zq_mnw M a b c) k f t x) (kd - 1) q0) (fun _ S => K S)) = K M')) ∧
  (∀ M s, zq_MB T n w M → J M s → 1 ≤ ht s → ∃ s' M', stp s ((311 : Int), ll 0, 0, 0, [], []) = .ok s' ∧ ht s' = ht s ∧ J M' s' ∧ zq_AF M M' ∧ (w = 1 → s_Mo_negate M = some ((), M')) ∧ (w = 0 → M' = M)) ∧
  (∀ M s g zq_pl, zq_MB T n w M → J M s → 2 ≤ ht s → zq_bsg g → (∀ s', stp s (g, ll 0, zq_pl, 0, [], []) = .ok s' → ht s' + 1 = ht s ∧ ∃ M', J M' s' ∧ zq_AF M M' ∧ (w = 1 → s_Mo_operate M g zq_pl = some (1, M')) ∧ (w = 0 → M' = M)) ∧ (∀ e, stp s (g, ll 0, zq_pl, 0, [], []) = .error e → w = 1 ∧ zq_FL M e (s_Mo_operate M g zq_pl)))
set_option maxRecDepth 100000 in
/-- how many operands the signs wait for -/
def zq_nB (t : List zq_SG) : Nat := t.countP (fun x => x.1 != 109 && x.1 != 40)
set_option maxRecDepth 100000 in
def zq_nU9 (t : List zq_SG) : Nat := t.countP (fun x => x.1 == 109)
set_option maxRecDepth 100000 in
theorem zq_sg_last {M : MS} {base : List zq_SG} {x : zq_SG} (h : zq_MSt M (base ++ [x])) : M.m_signs (base.length : Int) = x.1 ∧ M.m_signPlaces (base.length : Int) = x.2 ∧ M.m_signCount = (base.length : Int) + 1 := by
  have := h.2 base.length x (by rw [List.getElem?_append_right (Nat.le_refl _), Nat.sub_self]; rfl)
  refine ⟨this.1, this.2, ?_⟩
  rw [h.1]; simp
set_option maxRecDepth 100000 in
theorem zq_sg_less {M : MS} {base r : List zq_SG} (h : zq_MSt M (base ++ r)) {M' : MS} (e1 : M'.m_signs = M.m_signs) (e2 : M'.m_signPlaces = M.m_signPlaces) (e3 : M'.m_signCount = base.length) : zq_MSt M' base := by
  refine ⟨e3, fun i x hx => ?_⟩
  rw [e1, e2]
  refine h.2 i x ?_
  rw [List.getElem?_append_left (List.getElem?_eq_some_iff.mp hx).1]; exact hx
section
variable {T : Int → Int} {n w : Int} {σ : Type} {J : MS → σ → Prop} {stp : σ → zq_Od → zq_PR σ} {ht : σ → Nat}
set_option maxRecDepth 100000 in
/-- a sign is done -/
theorem zq_r_done (hs : zq_SEM T n w J stp ht) {M : MS} {s : σ} {base : List zq_SG} {x : zq_SG} (h : zq_MB T n w M) (hJ : J M s) (hst : zq_MSt M (base ++ [x])) (hl : base.length ≤ 30) (hx : zq_bsg x.1 ∨ x.1 = 109) (hh : (if x.1 = 109 then 1 else 2) ≤ ht s) :
    (∀ s', stp s (zq_popOp x) = .ok s' → ht s' + (if x.1 = 109 then 0 else 1) = ht s ∧ ∃ M', s_Mo_done M = some (1, M') ∧ J M' s' ∧ zq_MB T n w M' ∧ zq_MSt M' base ∧ M'.m_open = M.m_open - (if x.1 = 109 then 1 else 0) ∧ (M'.m_kind = M.m_kind ∧ M'.m_from = M.m_from ∧ M'.m_to = M.m_to ∧ M'.m_amount = M.m_amount) ∧ M'.m_wants = M.m_wants ∧ zq_KF M M') ∧
    (∀ e, stp s (zq_popOp x) = .error e → zq_FL M e (s_Mo_done M)) := by
  obtain ⟨sU, sP, sN, sF, sG, sB⟩ := hs
  obtain ⟨l1, l2, l3⟩ := zq_sg_last hst
  have hw := h.2.2.2.2.2.1
  have hw2 := h.2.2.2.2.2.2
  have hxr : 0 ≤ x.1 ∧ x.1 ≤ 400 := by rcases hx with z | z; unfold zq_bsg at z; omega; omega
  rw [s_Mo_done, l3, show (base.length : Int) + 1 - 1 = base.length by omega, if_pos (show (0 : Int) ≤ (base.length : Int) ∧ (base.length : Int) < 32 by omega), l1, zq_w32i (z := x.1) (by omega) (by omega)]
  generalize hM0 : MS.w_m_open (MS.w_m_signCount M (base.length : Int)) (M.m_open - (if x.1 = 109 then 1 else 0)) = M0
  have hM0q : M0 = zq_mq M M.m_kind M.m_from M.m_to M.m_amount M.m_signs M.m_signPlaces (base.length : Int) (M.m_open - (if x.1 = 109 then 1 else 0)) M.m_wants := by rw [← hM0]; rfl
  have hJ0 : J M0 s := by rw [hM0q]; exact sU _ _ _ _ _ _ _ _ _ _ _ hJ
  have hB0 : zq_MB T n w M0 := by rw [← hM0]; exact h
  have hK0 : zq_KF M M0 := by rw [← hM0]; rfl
  have e36 : (if x.1 = 109 then q_Mo_done_36 x.1 1 M.m_open (MS.w_m_signCount M (base.length : Int)) else q_Mo_done_36 x.1 0 M.m_open (MS.w_m_signCount M (base.length : Int))) = if w = 0 then some (1, M0) else if x.1 = 109 then mb2 (s_Mo_negate M0) (fun r14 S14 => some (1, S14)) else mb2 (s_Mo_operate M0 x.1 x.2) (fun r12 S12 => if r12 = 0 ∨ r12 = 1 then some (r12, S12) else none) := by
    have e : ∀ t : Int, q_Mo_done_36 x.1 t M.m_open (MS.w_m_signCount M (base.length : Int)) = if w = 0 then some (1, MS.w_m_open (MS.w_m_signCount M (base.length : Int)) (M.m_open - t)) else if x.1 = 109 then mb2 (s_Mo_negate (MS.w_m_open (MS.w_m_signCount M (base.length : Int)) (M.m_open - t))) (fun r14 S14 => some (1, S14)) else mb2 (s_Mo_operate (MS.w_m_open (MS.w_m_signCount M (base.length : Int)) (M.m_open - t)) x.1 x.2) (fun r12 S12 => if r12 = 0 ∨ r12 = 1 then some (r12, S12) else none) := by
      intro t
      rw [q_Mo_done_36]
      show (if w32 M.m_works = 0 then _ else if w32 x.1 = 109 then _ else (if (0 : Int) ≤ (base.length : Int) ∧ (base.length : Int) < 32 then mb2 (s_Mo_operate _ x.1 (M.m_signPlaces (base.length : Int))) _ else none)) = _
      rw [hw, zq_w32i (z := w) (by omega) (by omega), zq_w32i (z := x.1) (by omega) (by omega), if_pos (show (0 : Int) ≤ (base.length : Int) ∧ (base.length : Int) < 32 by omega), l2]
    rw [e, e, ← hM0]
    by_cases c : x.1 = 109
    · simp only [if_pos c]
    · simp only [if_neg c]
  rw [e36]
  have fin : ∀ M' s', zq_AF M0 M' → J M' s' → J M' s' ∧ zq_MB T n w M' ∧ zq_MSt M' base ∧ M'.m_open = M.m_open - (if x.1 = 109 then 1 else 0) ∧ (M'.m_kind = M.m_kind ∧ M'.m_from = M.m_from ∧ M'.m_to = M.m_to ∧ M'.m_amount = M.m_amount) ∧ M'.m_wants = M.m_wants ∧ zq_KF M M' := by
    intro M' s' ha hj
    obtain ⟨p1, p2, p3, p4, p5, p6, p7, p8, p9⟩ := zq_pl_1 ha.1
    rw [← hM0] at p1 p2 p3 p4 p5 p6 p7 p8 p9
    refine ⟨hj, zq_MB_AF hB0 ha, zq_sg_less hst p5 p6 p7, p8, ⟨p1, p2, p3, p4⟩, p9, zq_KF_tr hK0 ha.2.1⟩
  by_cases c109 : x.1 = 109
  · have ep : zq_popOp x = ((311 : Int), ll 0, 0, 0, [], []) := if_pos c109
    rw [ep]
    rw [if_pos c109] at hh
    obtain ⟨s', M', g1, g2, g3, g4, g5, g6⟩ := sG M0 s hB0 hJ0 hh
    refine ⟨fun s1 hs1 => ?_, fun e he => by rw [g1] at he; cases he⟩
    rw [g1] at hs1; cases hs1
    have := fin M' s' g4 g3
    refine ⟨by rw [if_pos c109]; omega, M', ?_, this⟩
    rcases hw2 with hw0 | hw1
    · rw [if_pos hw0, g6 hw0]
    · rw [if_neg (by omega), if_pos c109, zq_mb2_eq (g5 hw1)]
  · have ep : zq_popOp x = (x.1, ll 0, x.2, 0, [], []) := if_neg c109
    rw [ep]
    rw [if_neg c109] at hh
    obtain ⟨b1, b2⟩ := sB M0 s x.1 x.2 hB0 hJ0 hh (by rcases hx with z | z; exact z; exact absurd z c109)
    refine ⟨fun s1 hs1 => ?_, fun e he => ?_⟩
    · obtain ⟨g1, M', g2, g3, g4, g5⟩ := b1 s1 hs1
      refine ⟨by rw [if_neg c109]; omega, M', ?_, fin M' s1 g3 g2⟩
      rcases hw2 with hw0 | hw1
      · rw [if_pos hw0, g5 hw0]
      · rw [if_neg (by omega), if_neg c109, zq_mb2_eq (g4 hw1)]; rfl
    · obtain ⟨g1, g2⟩ := b2 e he
      rw [if_neg (by omega), if_neg c109]
      exact zq_FL_KF (zq_FL_bind g2 zq_f01) hK0
set_option maxRecDepth 100000 in
/-- signs are done down to a rank -/
theorem zq_E_doneTo (hs : zq_SEM T n w J stp ht) {r : Int} (hr : 1 ≤ r ∧ r ≤ 3) {base : List zq_SG} (hb : ∀ x ∈ base.getLast?, 0 ≤ x.1 ∧ x.1 ≤ 400 ∧ zq_rk x.1 < r) : ∀ (t : List zq_SG) (f : Nat) (M : MS) (s : σ), zq_MB T n w M → J M s → zq_MSt M (base ++ t.reverse) → base.length + t.length ≤ 30 → (∀ x ∈ t, (zq_bsg x.1 ∨ x.1 = 109) ∧ r ≤ zq_rk x.1) → 1 + zq_nB t ≤ ht s → t.length < f →
    (∀ s', zq_rO stp (t.map zq_popOp) s = .ok s' → ht s' + zq_nB t = ht s ∧ ∃ M', q_Mo_doneTo_2 f r 1 M = some (1, M') ∧ J M' s' ∧ zq_MB T n w M' ∧ zq_MSt M' base ∧ M'.m_open = M.m_open - zq_nU9 t ∧ (M'.m_kind = M.m_kind ∧ M'.m_from = M.m_from ∧ M'.m_to = M.m_to ∧ M'.m_amount = M.m_amount) ∧ M'.m_wants = M.m_wants ∧ zq_KF M M') ∧
    (∀ e, zq_rO stp (t.map zq_popOp) s = .error e → zq_FL M e (q_Mo_doneTo_2 f r 1 M))
  | t, 0, M, s => by omega
  | [], f + 1, M, s => by
    intro h hJ hst hl hx hh hf
    rw [List.reverse_nil, List.append_nil] at hst
    refine ⟨fun s' hs' => ?_, fun e he => by cases he⟩
    cases hs'
    refine ⟨rfl, M, ?_, hJ, h, hst, by simp [zq_nU9], ⟨rfl, rfl, rfl, rfl⟩, rfl, rfl⟩
    have hl' : base.length ≤ 30 := by simp at hl; omega
    rw [q_Mo_doneTo_2, if_neg (by decide), hst.1, zq_w32i (z := (base.length : Int)) (by omega) (by omega)]
    by_cases c1 : base.length = 0
    · rw [if_pos (by omega)]; rfl
    · rw [if_neg (by omega), if_pos ⟨by omega, by omega⟩]
      have hne : base ≠ [] := fun z => c1 (by rw [z]; rfl)
      have hgl : base[base.length - 1]? = some (base.getLast hne) := by
        rw [List.getLast_eq_getElem]; exact List.getElem?_eq_getElem _
      have e1 := (hst.2 (base.length - 1) _ hgl).1
      rw [show ((base.length - 1 : Nat) : Int) = (base.length : Int) - 1 by omega] at e1
      have hb' := hb (base.getLast hne) (by rw [List.getLast?_eq_some_getLast hne]; rfl)
      rw [e1, zq_mb1_eq (zq_r_rank ⟨hb'.1, hb'.2.1⟩)]
      have hrk : 0 ≤ zq_rk (base.getLast hne).1 := by unfold zq_rk; split; omega; split; omega; split <;> omega
      rw [zq_w32i (z := zq_rk (base.getLast hne).1) (by omega) (by omega), zq_w32i (z := r) (by omega) (by omega), if_pos hb'.2.2]
      rfl
  | x :: t, f + 1, M, s => by
    intro h hJ hst hl hx hh hf
    have hst' : zq_MSt M ((base ++ t.reverse) ++ [x]) := by
      rw [List.reverse_cons, ← List.append_assoc] at hst; exact hst
    have hx0 := hx x (by simp)
    have hlen : (base ++ t.reverse).length ≤ 29 := by simp at hl ⊢; omega
    obtain ⟨l1, l2, l3⟩ := zq_sg_last hst'
    have hxr : 0 ≤ x.1 ∧ x.1 ≤ 400 := by rcases hx0.1 with z | z; unfold zq_bsg at z; omega; omega
    have hrk : 0 ≤ zq_rk x.1 ∧ zq_rk x.1 ≤ 3 := by unfold zq_rk; split; omega; split; omega; split <;> omega
    have enb : zq_nB (x :: t) = zq_nB t + (if x.1 = 109 then 0 else 1) := by
      unfold zq_nB
      rw [List.countP_cons]
      congr 1
      rcases hx0.1 with z | z
      · unfold zq_bsg at z
        rw [if_pos (by simp; omega), if_neg (by omega)]
      · rw [if_neg (by simp [z]), if_pos z]
    have enu : zq_nU9 (x :: t) = zq_nU9 t + (if x.1 = 109 then 1 else 0) := by
      unfold zq_nU9
      rw [List.countP_cons]
      congr 1
      by_cases z : x.1 = 109
      · rw [if_pos (by simp [z]), if_pos z]
      · rw [if_neg (by simp [z]), if_neg z]
    have e0 : q_Mo_doneTo_2 (f + 1) r 1 M = mb2 (s_Mo_done M) (fun r18 S18 => q_Mo_doneTo_2 f r r18 S18) := by
      rw [q_Mo_doneTo_2, if_neg (by decide), l3, zq_w32i (z := ((base ++ t.reverse).length : Int) + 1) (by omega) (by omega), if_neg (by omega), show ((base ++ t.reverse).length : Int) + 1 - 1 = ((base ++ t.reverse).length : Int) by omega, if_pos ⟨by omega, by omega⟩, l1, zq_mb1_eq (zq_r_rank hxr), zq_w32i (z := zq_rk x.1) (by omega) (by omega), zq_w32i (z := r) (by omega) (by omega), if_neg (by have := hx0.2; omega)]
    rw [e0]
    obtain ⟨d1, d2⟩ := zq_r_done hs h hJ hst' (by omega) hx0.1 (by rw [enb] at hh; split <;> (rename_i z; first | rw [if_pos z] at hh | rw [if_neg z] at hh) <;> omega)
    show (∀ s', zq_pbd (stp s (zq_popOp x)) (zq_rO stp (t.map zq_popOp)) = .ok s' → _) ∧ (∀ e, zq_pbd (stp s (zq_popOp x)) (zq_rO stp (t.map zq_popOp)) = .error e → _)
    cases hq : stp s (zq_popOp x) with
    | error e =>
      refine ⟨fun s' z => (by cases z), fun e' z => ?_⟩
      cases z
      refine zq_FL_bind (d2 e hq) (fun S => ?_)
      obtain ⟨g, rfl⟩ : ∃ g, f = g + 1 := ⟨f - 1, by simp at hf; omega⟩
      rw [q_Mo_doneTo_2, if_pos (by decide)]; rfl
    | ok s1 =>
      obtain ⟨g0, M1, g1, g2, g3, g4, g5, g6, g7, g8⟩ := d1 s1 hq
      rw [zq_mb2_eq g1]
      have hh1 : 1 + zq_nB t ≤ ht s1 := by rw [enb] at hh; omega
      obtain ⟨i1, i2⟩ := zq_E_doneTo hs hr hb t f M1 s1 g3 g2 g4 (by simp at hl; omega) (fun y hy => hx y (List.mem_cons_of_mem _ hy)) hh1 (by simp at hf; omega)
      refine ⟨fun s' hs' => ?_, fun e he => zq_FL_KF (i2 e he) g8⟩
      obtain ⟨j0, M', j1, j2, j3, j4, j5, j6, j7, j8⟩ := i1 s' hs'
      refine ⟨by rw [enb]; omega, M', j1, j2, j3, j4, ?_, ⟨j6.1.trans g6.1, j6.2.1.trans g6.2.1, j6.2.2.1.trans g6.2.2.1, j6.2.2.2.trans g6.2.2.2⟩, j7.trans g7, zq_KF_tr g8 j8⟩
      rw [j5, g5, enu]; split <;> omega
end
