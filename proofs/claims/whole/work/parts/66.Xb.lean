set_option maxRecDepth 100000 in
theorem zq_q35_0 (f : Nat) (S : MS) : q_Mo_question_35 (f + 1) 0 S = some (0, S) := by
  rw [q_Mo_question_35, if_pos (by decide), q_Mo_question_75, if_pos (by decide), q_Mo_question_96, if_pos (by decide)]
set_option maxRecDepth 100000 in
def zq_MQ (T : Int → Int) (n w : Int) (M : MS) (p : Int) (st : List zq_SG) (d wa : Int) : Prop := zq_MB T n w M ∧ zq_MP T n M p ∧ zq_MSt M st ∧ M.m_open = d ∧ M.m_wants = wa
set_option maxRecDepth 100000 in
/-- one step of the machine -/
theorem zq_q_opd {T : Int → Int} {n w : Int} {M : MS} {p : Int} {st : List zq_SG} {d : Int} (h : zq_MQ T n w M p st d 1) (f : Nat) : q_Mo_question_35 (f + 1) 1 M = mb2 (s_Mo_operand M) (fun r S => q_Mo_question_35 f r S) := by
  obtain ⟨h1, h2, h3, h4, h5⟩ := h
  have e : q_Mo_question_53 (q_Mo_question_35 f) M = mb2 (s_Mo_operand M) (fun r S => q_Mo_question_35 f r S) := by
    rw [q_Mo_question_53, h5, if_neg (by decide)]; rfl
  rw [q_Mo_question_35, if_neg (by decide)]
  by_cases z : w32 M.m_kind = 0
  · rw [if_pos z, h5, if_neg (by decide), e]
  · rw [if_neg z, e]
set_option maxRecDepth 100000 in
theorem zq_q_opr {T : Int → Int} {n w : Int} {M : MS} {p : Int} {st : List zq_SG} {d : Int} (h : zq_MQ T n w M p st d 0) (f : Nat) (hp : zq_tK T n p ≠ 301) : q_Mo_question_35 (f + 1) 1 M = mb2 (s_Mo_operator M) (fun r S => q_Mo_question_35 f r S) := by
  obtain ⟨h1, h2, h3, h4, h5⟩ := h
  have hk := zq_mk_iff (zq_tK_set T n p)
  rw [q_Mo_question_35, if_neg (by decide), h2.2.1, zq_w32i (z := zq_mk (zq_tK T n p)) (by omega) (by omega), if_neg (fun z => hp (hk.1.mp z)), q_Mo_question_53, h5, if_pos (by decide)]; rfl
set_option maxRecDepth 100000 in
theorem zq_q_end {T : Int → Int} {n w : Int} {M : MS} {p : Int} {st : List zq_SG} {d : Int} (h : zq_MQ T n w M p st d 0) (f : Nat) (hp : zq_tK T n p = 301) : q_Mo_question_35 (f + 1) 1 M = q_Mo_question_75 1 M := by
  obtain ⟨h1, h2, h3, h4, h5⟩ := h
  have hk := zq_mk_iff (zq_tK_set T n p)
  rw [q_Mo_question_35, if_neg (by decide), h2.2.1, zq_w32i (z := zq_mk (zq_tK T n p)) (by omega) (by omega), if_pos (hk.1.mpr hp), h5, if_pos (by decide)]
set_option maxRecDepth 100000 in
theorem zq_E_isOpen {M : MS} {st : List zq_SG} (h : zq_MSt M st) (hl : st.length ≤ 31) (hx : ∀ x ∈ st, 0 ≤ x.1 ∧ x.1 ≤ 400) : ∀ (f i : Nat) (d : Prop) [Decidable d], i ≤ st.length → st.length - i < f → q_Mo_isOpen_4 f (zq_b01 d) i M = some (zq_b01 (d ∨ (st.drop i).any (fun x => x.1 == 40) = true), M)
  | 0, i, d, _ => by omega
  | f + 1, i, d, _ => by
    intro h1 h2
    rw [q_Mo_isOpen_4, h.1, zq_w32i (z := (st.length : Int)) (by omega) (by omega), zq_w32i (z := (i : Int)) (by omega) (by omega)]
    by_cases c1 : st.length ≤ i
    · rw [if_pos (by omega), List.drop_eq_nil_of_le c1]
      rw [if_pos (by unfold zq_b01; split <;> simp)]
      congr 2; apply zq_b01_i; simp
    · have hi : st[i]? = some (st[i]'(by omega)) := List.getElem?_eq_getElem _
      have hr := hx _ (List.mem_of_getElem? hi)
      rw [if_neg (by omega), List.drop_eq_getElem_cons (show i < st.length by omega), List.any_cons]
      have fin : ∀ (g : Prop) [Decidable g], (g ↔ (d ∨ (st[i]'(by omega)).1 = 40)) → q_Mo_isOpen_32 (q_Mo_isOpen_4 f) i (zq_b01 g) M = some (zq_b01 (d ∨ ((st[i]'(by omega)).1 == 40 || (st.drop (i + 1)).any (fun x => x.1 == 40)) = true), M) := by
        intro g _ hg
        rw [q_Mo_isOpen_32]
        have := zq_E_isOpen h hl hx f (i + 1) g (by omega) (by omega)
        rw [show ((i + 1 : Nat) : Int) = (i : Int) + 1 by omega] at this
        rw [this]; congr 2; apply zq_b01_i
        rw [hg, Bool.or_eq_true, beq_iff_eq, or_assoc]
      by_cases c2 : d
      · rw [if_neg (by rw [zq_b01_0]; simp [c2]), q_Mo_isOpen_27]
        have := fin True ⟨fun _ => Or.inl c2, fun _ => trivial⟩
        rw [show zq_b01 True = 1 from if_pos trivial] at this
        exact this
      · rw [if_pos (by rw [zq_b01_0]; exact c2), if_pos ⟨by omega, by omega⟩, (h.2 i _ hi).1, zq_w32i (z := (st[i]'(by omega)).1) (by omega) (by omega)]
        by_cases c3 : (st[i]'(by omega)).1 = 40
        · rw [if_pos c3, q_Mo_isOpen_27]
          have := fin True ⟨fun _ => Or.inr c3, fun _ => trivial⟩
          rw [show zq_b01 True = 1 from if_pos trivial] at this
          exact this
        · rw [if_neg c3]
          have := fin False ⟨fun z => z.elim, fun z => z.elim c2 c3⟩
          rw [show zq_b01 False = 0 from if_neg (fun z => z)] at this
          exact this
set_option maxRecDepth 100000 in
theorem zq_r_isOpen {M : MS} {st : List zq_SG} (h : zq_MSt M st) (hl : st.length ≤ 31) (hx : ∀ x ∈ st, 0 ≤ x.1 ∧ x.1 ≤ 400) : s_Mo_isOpen M = some (zq_b01 (st.any (fun x => x.1 == 40) = true), M) := by
  have := zq_E_isOpen h hl hx fU 0 False (by omega) (zq_fU_gt (by omega))
  rw [show zq_b01 False = 0 from if_neg (fun z => z), List.drop_zero] at this
  rw [s_Mo_isOpen]
  refine this.trans ?_
  congr 2; apply zq_b01_i; simp
section
variable {T : Int → Int} {n w : Int} {σ : Type} {J : MS → σ → Prop} {stp : σ → zq_Od → zq_PR σ} {ht : σ → Nat}
set_option maxRecDepth 100000 in
/-- what the reading of an operand comes to -/
def zq_RES (T : Int → Int) (n w : Int) (J : MS → σ → Prop) (stp : σ → zq_Od → zq_PR σ) (ht : σ → Nat) (l : Nat) (f : Nat) (M : MS) (s : σ) (base : List zq_SG) (d p : Int) (y : Int × List zq_Od) : Prop :=
  (∃ (f' : Nat) (M' : MS) (pend : List zq_SG) (s1 : σ), q_Mo_question_35 f 1 M = q_Mo_question_35 f' 1 M' ∧ ((f : Int) ≤ f' + (zq_tA T n y.1 - zq_tA T n p) ∧ zq_tA T n p + 1 ≤ zq_tA T n y.1) ∧ zq_MQ T n w M' y.1 (base ++ pend.reverse) d 0 ∧ J M' s1 ∧ zq_KF M M' ∧ (∀ x ∈ pend, zq_bsg x.1 ∧ (l : Int) ≤ zq_rk x.1) ∧ pend.length + l ≤ 3 ∧ ht s1 = ht s + 1 + pend.length ∧ zq_rO stp (pend.map zq_popOp) s1 = zq_rO stp y.2 s ∧ (zq_bsg (zq_tK T n y.1) → zq_rk (zq_tK T n y.1) < l)) ∨
  (∃ e, zq_rO stp y.2 s = .error e ∧ zq_FL M e (q_Mo_question_35 f 1 M))
set_option maxRecDepth 100000 in
def zq_topR (base : List zq_SG) (l : Int) : Prop := ∀ x ∈ base.getLast?, 0 ≤ x.1 ∧ x.1 ≤ 400 ∧ zq_rk x.1 < l
set_option maxRecDepth 100000 in
def zq_okSt (st : List zq_SG) : Prop := ∀ x ∈ st, 0 ≤ x.1 ∧ x.1 ≤ 400
set_option maxRecDepth 100000 in
def zq_MLv (T : Int → Int) (n w : Int) (J : MS → σ → Prop) (stp : σ → zq_Od → zq_PR σ) (ht : σ → Nat) (l : Nat) (G : zq_PF) (d : Int) : Prop := ∀ (f : Nat) (M : MS) (s : σ) (base : List zq_SG) (p : Int), zq_MQ T n w M p base d 1 → zq_topR base l → zq_okSt base → J M s → (ht s : Int) + 1 ≤ 2 * d + l → (base.length : Int) ≤ d + ht s → n - zq_tA T n p + 10 ≤ f →
  (∀ y, G d p = .ok y → zq_RES T n w J stp ht l f M s base d p y) ∧ (∀ e, w = 0 → G d p = .error e → zq_FL M e (q_Mo_question_35 f 1 M))
set_option maxRecDepth 100000 in
theorem zq_nB_b {t : List zq_SG} (h : ∀ x ∈ t, zq_bsg x.1) : zq_nB t = t.length ∧ zq_nU9 t = 0 := by
  unfold zq_nB zq_nU9
  constructor
  · rw [List.countP_eq_length]
    intro x hx
    have := h x hx; unfold zq_bsg at this
    simp; omega
  · rw [List.countP_eq_zero]
    intro x hx
    have := h x hx; unfold zq_bsg at this
    simp; omega
set_option maxRecDepth 100000 in
theorem zq_rk_b {g : Int} (h : zq_bsg g) : 1 ≤ zq_rk g ∧ zq_rk g ≤ 2 ∧ (zq_rk g = 1 ↔ zq_isSS g = true) ∧ (zq_rk g = 2 ↔ zq_isPS g = true) := by
  unfold zq_bsg at h
  rcases h with rfl | rfl | rfl | rfl | rfl <;> decide
set_option maxRecDepth 100000 in
theorem zq_topR_snoc {base : List zq_SG} {x : zq_SG} {l : Int} (h : 0 ≤ x.1 ∧ x.1 ≤ 400 ∧ zq_rk x.1 < l) : zq_topR (base ++ [x]) l := by
  intro y hy
  rw [List.getLast?_concat] at hy
  cases hy; exact h
set_option maxRecDepth 100000 in
theorem zq_MSt_push {M : MS} {st : List zq_SG} {M' : MS} {x : zq_SG} (h : zq_MSt M st) (e1 : M'.m_signs = aU M.m_signs (st.length : Int) x.1) (e2 : M'.m_signPlaces = aU M.m_signPlaces (st.length : Int) x.2) (e3 : M'.m_signCount = (st.length : Int) + 1) : zq_MSt M' (st ++ [x]) := by
  refine ⟨by rw [e3]; simp, fun i y hy => ?_⟩
  rw [e1, e2]
  by_cases c : i < st.length
  · rw [List.getElem?_append_left c] at hy
    rw [zq_aU_ne _ _ _ _ (by omega), zq_aU_ne _ _ _ _ (by omega)]
    exact h.2 i y hy
  · have hl : i < (st ++ [x]).length := (List.getElem?_eq_some_iff.mp hy).1
    simp at hl
    have : i = st.length := by omega
    subst this
    rw [List.getElem?_append_right (Nat.le_refl _), Nat.sub_self] at hy
    simp at hy; subst hy
    rw [zq_aU_at, zq_aU_at]; exact ⟨rfl, rfl⟩
set_option maxRecDepth 100000 in
/-- a sign is met -/
theorem zq_r_sign (hs : zq_SEM T n w J stp ht) {l : Nat} (hl : l = 1 ∨ l = 2) {M : MS} {s : σ} {base pend : List zq_SG} {d p : Int} (hq : zq_MQ T n w M p (base ++ pend.reverse) d 0) (htop : zq_topR base l) (hJ : J M s) (hpe : ∀ x ∈ pend, zq_bsg x.1 ∧ (l : Int) ≤ zq_rk x.1) (hlen : base.length + pend.length ≤ 29) (hh : 1 + pend.length ≤ ht s) (hk : zq_bsg (zq_tK T n p)) (hr : zq_rk (zq_tK T n p) = l) :
    (∀ s', zq_rO stp (pend.map zq_popOp) s = .ok s' → ht s' + pend.length = ht s ∧ (∀ q, zq_pAdv T n p = .ok q → ∃ M', s_Mo_operator M = some (1, M') ∧ zq_MQ T n w M' q (base ++ [(zq_tK T n p, zq_tA T n p)]) d 1 ∧ J M' s' ∧ zq_KF M M' ∧ q = zq_tB T n p) ∧ (∀ e, zq_pAdv T n p = .error e → zq_FL M e (s_Mo_operator M))) ∧
    (∀ e, zq_rO stp (pend.map zq_popOp) s = .error e → zq_FL M e (s_Mo_operator M)) := by
  obtain ⟨h1, h2, h3, h4, h5⟩ := hq
  have hkk := zq_mk_iff (zq_tK_set T n p)
  have hkb : 37 ≤ zq_tK T n p ∧ zq_tK T n p ≤ 125 := by unfold zq_bsg at hk; omega
  have ek : M.m_kind = zq_tK T n p := by rw [h2.2.1]; exact (hkk.2.2.2.2.1 _ hkb.1 hkb.2).mpr rfl
  have hrk := zq_rk_b hk
  obtain ⟨n1, n2⟩ := zq_nB_b (fun x hx => (hpe x hx).1)
  have e0 : s_Mo_operator M = q_Mo_operator_18 (l : Int) M := by
    rw [s_Mo_operator, ek, zq_mb1_eq (zq_r_rank ⟨by omega, by omega⟩), hr, zq_w32i (z := (l : Int)) (by omega) (by omega)]
    rcases hl with rfl | rfl
    · rw [if_pos (by decide)]
    · rw [if_neg (by decide), if_pos (by decide)]
  rw [e0, q_Mo_operator_18, s_Mo_doneTo]
  obtain ⟨d1, d2⟩ := zq_E_doneTo hs (r := (l : Int)) (by omega) htop pend fU M s h1 hJ h3 (by omega) (fun x hx => ⟨Or.inl (hpe x hx).1, (hpe x hx).2⟩) (by omega) (zq_fU_gt (by omega))
  refine ⟨fun s' hs' => ?_, fun e he => zq_FL_bind (d2 e he) (fun S => by rw [if_pos (by decide)])⟩
  obtain ⟨g0, M1, g1, g2, g3, g4, g5, g6, g7, g8⟩ := d1 s' hs'
  refine ⟨by omega, ?_⟩
  rw [zq_mb2_eq g1, if_neg (by decide), g4.1, if_pos ⟨by omega, by omega⟩, if_pos ⟨by omega, by omega⟩, g6.1, ek, g6.2.1, h2.2.2.1]
  generalize hM2 : MS.w_m_wants (MS.w_m_signCount (MS.w_m_signPlaces (MS.w_m_signs M1 (aU M1.m_signs (base.length : Int) (zq_tK T n p))) (aU M1.m_signPlaces (base.length : Int) (zq_tA T n p))) ((base.length : Int) + 1)) 1 = M2
  have hJ2 : J M2 s' := by
    have := hs.1 M1 s' M1.m_kind M1.m_from M1.m_to M1.m_amount (aU M1.m_signs (base.length : Int) (zq_tK T n p)) (aU M1.m_signPlaces (base.length : Int) (zq_tA T n p)) ((base.length : Int) + 1) M1.m_open 1 g2
    rw [← hM2]; exact this
  have hB2 : zq_MB T n w M2 := by rw [← hM2]; exact g3
  have hP2 : zq_MP T n M2 p := by rw [← hM2]; exact zq_MP_pl h2 g6
  have hK2 : zq_KF M M2 := by rw [← hM2]; exact g8
  obtain ⟨a1, a2⟩ := zq_r_next2 hB2 hP2
  refine ⟨fun q hq => ?_, fun e he => zq_FL_KF (a2 e he) hK2⟩
  obtain ⟨x, i1, i2, i3⟩ := a1 q hq
  refine ⟨_, i1, ⟨hB2, i2, ?_, ?_, ?_⟩, ?_, hK2, i3⟩
  · refine zq_MSt_push g4 ?_ ?_ ?_
    · rw [← hM2]; rfl
    · rw [← hM2]; rfl
    · rw [← hM2]; rfl
  · rw [← hM2]; show M1.m_open = d; rw [g5, h4, n2]; omega
  · rw [← hM2]; rfl
  · have := hs.1 M2 s' (zq_mk (zq_tK T n q)) (zq_tA T n q) (zq_tB T n q) x M2.m_signs M2.m_signPlaces M2.m_signCount M2.m_open M2.m_wants hJ2
    exact this
set_option maxRecDepth 100000 in
theorem zq_E_mloop (hs : zq_SEM T n w J stp ht) {l : Nat} (hl : l = 1 ∨ l = 2) {sg : Int → Bool} (hsg : ∀ g, sg g = true ↔ zq_bsg g ∧ zq_rk g = l) {G : zq_PF} {d : Int} (hd : 0 ≤ d ∧ d ≤ 8) (hG : zq_MLv T n w J stp ht (l + 1) G d) {f0 : Nat} {M0 : MS} {s0 : σ} {base : List zq_SG} {p0 : Int} (htop : zq_topR base l) (hok : zq_okSt base) (h0 : (ht s0 : Int) + 1 ≤ 2 * d + l) (hb0 : (base.length : Int) ≤ d + ht s0) : ∀ (m : Nat) (f : Nat) (M : MS) (s : σ) (pend : List zq_SG) (p : Int) (os : List zq_Od), n - zq_tA T n p ≤ m → (f0 : Int) ≤ f + (zq_tA T n p - zq_tA T n p0) → zq_tA T n p0 + 1 ≤ zq_tA T n p → q_Mo_question_35 f0 1 M0 = q_Mo_question_35 f 1 M → zq_MQ T n w M p (base ++ pend.reverse) d 0 → J M s → zq_KF M0 M → (∀ x ∈ pend, zq_bsg x.1 ∧ (l : Int) ≤ zq_rk x.1) → pend.length + l ≤ 3 → ht s = ht s0 + 1 + pend.length → zq_rO stp (pend.map zq_popOp) s = zq_rO stp os s0 → (zq_bsg (zq_tK T n p) → zq_rk (zq_tK T n p) < (l : Int) + 1) → n - zq_tA T n p0 + 10 ≤ f0 →
    (∀ y, zq_pLoop T n G sg d m os p = .ok y → zq_RES T n w J stp ht l f0 M0 s0 base d p0 y) ∧ (∀ e, w = 0 → (∀ s o, ∃ s', stp s o = .ok s') → zq_pLoop T n G sg d m os p = .error e → zq_FL M0 e (q_Mo_question_35 f0 1 M0))
  | 0, f, M, s, pend, p, os => by
    intro hm hf hp0 heq hq hJ hK hpe hpl hhs hrO hkl hf0
    have hT := zq_MB_T hq.1
    have R := zq_tok_R hT hq.2.1.1.1 hq.2.1.1.2.1
    have c301 : zq_tK T n p = 301 := by
      by_cases z : zq_tK T n p = 301
      · exact z
      · have := (R.2.1 z).1; omega
    rw [zq_pLoop]
    refine ⟨fun y hy => ?_, fun e _ _ he => by cases he⟩
    cases hy
    refine Or.inl ⟨f, M, pend, s, heq, ⟨hf, hp0⟩, hq, hJ, hK, hpe, hpl, hhs, hrO, fun z => ?_⟩
    have z : zq_bsg (zq_tK T n p) := z
    unfold zq_bsg at z; omega
  | m + 1, f, M, s, pend, p, os => by
    intro hm hf hp0 heq hq hJ hK hpe hpl hhs hrO hkl hf0
    have hT := zq_MB_T hq.1
    have p1 := hq.2.1.1.1; have p2 := hq.2.1.1.2.1
    have R := zq_tok_R hT p1 p2
    have gle := zq_tA_le (T := T) p2
    rw [zq_pLoop]
    by_cases c1 : sg (zq_tK T n p) = true
    · rw [if_pos c1]
      obtain ⟨cb, cr⟩ := (hsg _).mp c1
      have n301 : zq_tK T n p ≠ 301 := by unfold zq_bsg at cb; omega
      have R1 := R.2.1 n301
      obtain ⟨f1, rfl⟩ : ∃ f1, f = f1 + 1 := ⟨f - 1, by omega⟩
      have eq1 := zq_q_opr hq f1 n301
      have hq0 : ∀ S : MS, q_Mo_question_35 f1 0 S = some (0, S) := by
        intro S
        obtain ⟨f2, rfl⟩ : ∃ f2, f1 = f2 + 1 := ⟨f1 - 1, by omega⟩
        exact zq_q35_0 f2 S
      obtain ⟨a1, a2⟩ := zq_r_sign hs hl hq htop hJ hpe (by omega) (by omega) cb cr
      cases hrp : zq_rO stp (pend.map zq_popOp) s with
      | error e =>
        have fl : zq_FL M0 e (q_Mo_question_35 f0 1 M0) := by
          rw [heq, eq1]; exact zq_FL_KF (zq_FL_bind (a2 e hrp) hq0) hK
        refine ⟨fun y hy => Or.inr ⟨e, ?_, fl⟩, fun e' hw hst he => ?_⟩
        · -- all that the loop gives begins with the orders so far
          have pre : ∀ (m : Nat) (os : List zq_Od) (p : Int) (y : Int × List zq_Od), zq_pLoop T n G sg d m os p = .ok y → ∃ r, y.2 = os ++ r := by
            intro m
            induction m with
            | zero => intro os p y hy; rw [zq_pLoop] at hy; cases hy; exact ⟨[], by simp⟩
            | succ m ih =>
              intro os p y hy
              rw [zq_pLoop] at hy
              split at hy
              · cases h1 : zq_pAdv T n p with
                | error e => rw [h1] at hy; cases hy
                | ok q =>
                  rw [h1, zq_pbd_ok] at hy
                  cases h2 : G d q with
                  | error e => rw [h2] at hy; cases hy
                  | ok y2 =>
                    rw [h2, zq_pbd_ok] at hy
                    obtain ⟨r, hr⟩ := ih _ _ _ hy
                    exact ⟨y2.2 ++ [(zq_tK T n p, ll 0, zq_tA T n p, 0, [], [])] ++ r, by rw [hr]; simp⟩
              · cases hy; exact ⟨[], by simp⟩
          cases h1 : zq_pAdv T n p with
          | error e2 => rw [h1] at hy; cases hy
          | ok q =>
            rw [h1, zq_pbd_ok] at hy
            cases h2 : G d q with
            | error e2 => rw [h2] at hy; cases hy
            | ok y2 =>
              rw [h2, zq_pbd_ok] at hy
              obtain ⟨r, hr⟩ := pre _ _ _ _ hy
              rw [hr, List.append_assoc, List.append_assoc, zq_rO_app, ← hrO, hrp]; rfl
        · exfalso
          have tot : ∀ (t : List zq_Od) (s : σ), ∃ s', zq_rO stp t s = .ok s' := by
            intro t
            induction t with
            | nil => intro s; exact ⟨s, rfl⟩
            | cons o r ih =>
              intro s
              obtain ⟨s1, h1⟩ := hst s o
              obtain ⟨s2, h2⟩ := ih s1
              exact ⟨s2, by show zq_pbd (stp s o) (zq_rO stp r) = _; rw [h1]; exact h2⟩
          obtain ⟨s9, h9⟩ := tot (pend.map zq_popOp) s
          rw [h9] at hrp; cases hrp
      | ok s2 =>
        obtain ⟨g0, b1, b2⟩ := a1 s2 hrp
        cases h1 : zq_pAdv T n p with
        | error e =>
          refine ⟨(fun y hy => by cases hy), fun e' hw _ he => ?_⟩
          cases he
          rw [heq, eq1]; exact zq_FL_KF (zq_FL_bind (b2 e h1) hq0) hK
        | ok q =>
          obtain ⟨M2, i1, i2, i3, i4, i5⟩ := b1 q h1
          rw [zq_pbd_ok]
          have gq := zq_tA_ge T n q
          have htop2 : zq_topR (base ++ [(zq_tK T n p, zq_tA T n p)]) ((l + 1 : Nat) : Int) := zq_topR_snoc ⟨by unfold zq_bsg at cb; show 0 ≤ zq_tK T n p; omega, by unfold zq_bsg at cb; show zq_tK T n p ≤ 400; omega, by show zq_rk (zq_tK T n p) < _; omega⟩
          have hok2 : zq_okSt (base ++ [(zq_tK T n p, zq_tA T n p)]) := by
            intro x hx
            rcases List.mem_append.mp hx with z | z
            · exact hok x z
            · simp at z; subst z; unfold zq_bsg at cb; exact ⟨by show 0 ≤ zq_tK T n p; omega, by show zq_tK T n p ≤ 400; omega⟩
          obtain ⟨j1, j2⟩ := hG f1 M2 s2 (base ++ [(zq_tK T n p, zq_tA T n p)]) q i2 htop2 hok2 i3 (by omega) (by simp; omega) (by omega)
          have eqf : q_Mo_question_35 f0 1 M0 = q_Mo_question_35 f1 1 M2 := by rw [heq, eq1, zq_mb2_eq i1]
          cases h2 : G d q with
          | error e =>
            refine ⟨(fun y hy => by cases hy), fun e' hw _ he => ?_⟩
            cases he
            rw [eqf]; exact zq_FL_KF (j2 e hw h2) (zq_KF_tr hK i4)
          | ok y2 =>
            rw [zq_pbd_ok]
            have pre : ∀ (m : Nat) (os : List zq_Od) (p : Int) (y : Int × List zq_Od), zq_pLoop T n G sg d m os p = .ok y → ∃ r, y.2 = os ++ r := by
              intro m
              induction m with
              | zero => intro os p y hy; rw [zq_pLoop] at hy; cases hy; exact ⟨[], by simp⟩
              | succ m ih =>
                intro os p y hy
                rw [zq_pLoop] at hy
                split at hy
                · cases h1 : zq_pAdv T n p with
                  | error e => rw [h1] at hy; cases hy
                  | ok q =>
                    rw [h1, zq_pbd_ok] at hy
                    cases h2 : G d q with
                    | error e => rw [h2] at hy; cases hy
                    | ok y2 =>
                      rw [h2, zq_pbd_ok] at hy
                      obtain ⟨r, hr⟩ := ih _ _ _ hy
                      exact ⟨y2.2 ++ [(zq_tK T n p, ll 0, zq_tA T n p, 0, [], [])] ++ r, by rw [hr]; simp⟩
                · cases hy; exact ⟨[], by simp⟩
            have eos : zq_rO stp os s0 = .ok s2 := by rw [← hrO]; exact hrp
            rcases j1 y2 h2 with ⟨f3, M3, pend3, s3, k1, k2, k3, k4, k5, k6, k7, k8, k9, k10⟩ | ⟨e, k1, k2⟩
            · have est : base ++ [(zq_tK T n p, zq_tA T n p)] ++ pend3.reverse = base ++ (pend3 ++ [(zq_tK T n p, zq_tA T n p)]).reverse := by simp
              rw [est] at k3
              have epop : zq_popOp (zq_tK T n p, zq_tA T n p) = (zq_tK T n p, ll 0, zq_tA T n p, 0, [], []) := by
                unfold zq_popOp; rw [if_neg]; show ¬ zq_tK T n p = 109; unfold zq_bsg at cb; omega
              exact zq_E_mloop hs hl hsg hd hG htop hok h0 hb0 m f3 M3 s3 (pend3 ++ [(zq_tK T n p, zq_tA T n p)]) y2.1 (os ++ y2.2 ++ [(zq_tK T n p, ll 0, zq_tA T n p, 0, [], [])]) (by omega) (by omega) (by omega) (eqf.trans k1) k3 k4 (zq_KF_tr hK (zq_KF_tr i4 k5))
                (fun x hx => by
                  rcases List.mem_append.mp hx with z | z
                  · have := k6 x z; exact ⟨this.1, by omega⟩
                  · simp at z; subst z; exact ⟨cb, by show (l : Int) ≤ zq_rk (zq_tK T n p); omega⟩)
                (by simp; omega) (by simp; omega)
                (by
                  rw [List.map_append, zq_rO_app, k9, List.append_assoc, zq_rO_app, eos, zq_pbd_ok, zq_rO_app, List.map_cons, List.map_nil, epop])
                (fun z => by have := k10 z; omega) hf0
            · have fl : zq_FL M0 e (q_Mo_question_35 f0 1 M0) := by rw [eqf]; exact zq_FL_KF k2 (zq_KF_tr hK i4)
              refine ⟨fun y hy => Or.inr ⟨e, ?_, fl⟩, fun e' hw hst he => ?_⟩
              · obtain ⟨r, hr⟩ := pre _ _ _ _ hy
                rw [hr, List.append_assoc, List.append_assoc, zq_rO_app, eos, zq_pbd_ok, zq_rO_app, k1]; rfl
              · exfalso
                have tot : ∀ (t : List zq_Od) (s : σ), ∃ s', zq_rO stp t s = .ok s' := by
                  intro t
                  induction t with
                  | nil => intro s; exact ⟨s, rfl⟩
                  | cons o r ih =>
                    intro s
                    obtain ⟨s1, h1⟩ := hst s o
                    obtain ⟨s2, h2⟩ := ih s1
                    exact ⟨s2, by show zq_pbd (stp s o) (zq_rO stp r) = _; rw [h1]; exact h2⟩
                obtain ⟨s9, h9⟩ := tot y2.2 s2
                rw [h9] at k1; cases k1
    · rw [if_neg c1]
      refine ⟨fun y hy => ?_, fun e _ _ he => by cases he⟩
      cases hy
      refine Or.inl ⟨f, M, pend, s, heq, ⟨hf, hp0⟩, hq, hJ, hK, hpe, hpl, hhs, hrO, fun z => ?_⟩
      have z : zq_bsg (zq_tK T n p) := z
      have := hkl z
      have hne : zq_rk (zq_tK T n p) ≠ l := fun e => c1 ((hsg _).mpr ⟨z, e⟩)
      show zq_rk (zq_tK T n p) < (l : Int)
      omega
end
set_option maxRecDepth 100000 in
/-- which signs are tokens -/
theorem zq_tK_sgn (T : Int → Int) (n p : Int) : (300 ≤ zq_tK T n p ∧ zq_tK T n p ≤ 307) ∨ zq_tK T n p = 37 ∨ (40 ≤ zq_tK T n p ∧ zq_tK T n p ≤ 47) ∨ zq_tK T n p = 61 ∨ zq_tK T n p = 123 ∨ zq_tK T n p = 125 := by
  have e1 : zq_tK T n p = (zq_tokA T n (zq_tA T n p) (ll 0)).1 := rfl
  generalize zq_tA T n p = a at *
  rw [e1]
  by_cases c1 : T a = -1
  · rw [zq_tokA_fin c1]; left; simp only; omega
  by_cases c2 : zq_dgB (T a) = true
  · rw [zq_tokA_dig c1 c2]
    have g := (zq_nr_ge T (n - a).toNat a (ll 0)).2.2
    have e : (zq_nrn T n a (ll 0)).1 = (zq_nr T (n - a).toNat a (ll 0)).1 := rfl
    omega
  simp at c2
  by_cases c3 : zq_nmB (T a) = true
  · rw [zq_tokA_nam c1 c2 c3]; left; simp only; omega
  simp at c3
  by_cases c4 : T a = 34
  · rw [zq_tokA_quo c4]; simp only; left; split <;> omega
  · rw [zq_tokA_sig c1 c2 c3 c4]; simp only; unfold zq_sgK
    split
    · split
      · omega
      · split <;> omega
    · split
      · split <;> omega
      · split <;> omega
set_option maxRecDepth 100000 in
abbrev zq_oNeg : zq_Od := ((311 : Int), ll 0, 0, 0, [], [])
set_option maxRecDepth 100000 in
def zq_negs (k : Nat) : List zq_Od := List.replicate k zq_oNeg
set_option maxRecDepth 100000 in
theorem zq_negs_of {u : List zq_SG} (h : ∀ x ∈ u, x.1 = 109) : u.map zq_popOp = zq_negs u.length := by
  unfold zq_negs
  rw [List.eq_replicate_iff]
  refine ⟨by simp, fun b hb => ?_⟩
  obtain ⟨x, hx, rfl⟩ := List.mem_map.mp hb
  unfold zq_popOp; rw [if_pos (h x hx)]
set_option maxRecDepth 100000 in
theorem zq_nB_u {u : List zq_SG} (h : ∀ x ∈ u, x.1 = 109) : zq_nB u = 0 ∧ zq_nU9 u = u.length := by
  unfold zq_nB zq_nU9
  constructor
  · rw [List.countP_eq_zero]
    intro x hx; simp [h x hx]
  · rw [List.countP_eq_length]
    intro x hx; simp [h x hx]
set_option maxRecDepth 100000 in
def zq_kCl2 : Int → MS → Option (Int × MS) := (fun r37 S37 => if w32 r37 = 0 then some (0, S37) else mb2 (s_Mo_doneTo S37 3) (fun r39 S39 => if w32 r39 = 0 then some (0, S39) else some (1, S39)))
set_option maxRecDepth 100000 in
def zq_kCl1 : Int → MS → Option (Int × MS) := (fun r35 S35 => if w32 r35 = 0 then some (0, S35) else mb2 (s_Mo_next (MS.w_m_open (MS.w_m_signCount S35 (S35.m_signCount - 1)) (S35.m_open - 1)) ) zq_kCl2)
section
variable {T : Int → Int} {n w : Int} {σ : Type} {J : MS → σ → Prop} {stp : σ → zq_Od → zq_PR σ} {ht : σ → Nat}
set_option maxRecDepth 100000 in
/-- the minus signs before an operand are done -/
theorem zq_r_negs (hs : zq_SEM T n w J stp ht) {M : MS} {s : σ} {base u : List zq_SG} {d p wa : Int} (hq : zq_MQ T n w M p (base ++ u) d wa) (htop : zq_topR base 3) (hu : ∀ x ∈ u, x.1 = 109) (hJ : J M s) (hlen : base.length + u.length ≤ 30) (hh : 1 ≤ ht s) :
    (∀ s', zq_rO stp (zq_negs u.length) s = .ok s' → ht s' = ht s ∧ ∃ M', s_Mo_doneTo M 3 = some (1, M') ∧ zq_MQ T n w M' p base (d - u.length) wa ∧ J M' s' ∧ zq_KF M M') ∧
    (∀ e, zq_rO stp (zq_negs u.length) s = .error e → zq_FL M e (s_Mo_doneTo M 3)) := by
  obtain ⟨h1, h2, h3, h4, h5⟩ := hq
  have hu' : ∀ x ∈ u.reverse, x.1 = 109 := fun x hx => hu x (List.mem_reverse.mp hx)
  obtain ⟨n1, n2⟩ := zq_nB_u hu'
  have h3' : zq_MSt M (base ++ u.reverse.reverse) := by rw [List.reverse_reverse]; exact h3
  obtain ⟨d1, d2⟩ := zq_E_doneTo hs (r := 3) (by omega) htop u.reverse fU M s h1 hJ h3' (by rw [List.length_reverse]; omega) (fun x hx => ⟨Or.inr (hu' x hx), by rw [hu' x hx]; decide⟩) (by omega) (zq_fU_gt (by rw [List.length_reverse]; omega))
  have e : u.reverse.map zq_popOp = zq_negs u.length := by rw [zq_negs_of hu', List.length_reverse]
  rw [e] at d1 d2
  refine ⟨fun s' hs' => ?_, d2⟩
  obtain ⟨g0, M1, g1, g2, g3, g4, g5, g6, g7, g8⟩ := d1 s' hs'
  refine ⟨by omega, M1, g1, ⟨g3, zq_MP_pl h2 g6, g4, ?_, by rw [g7]; exact h5⟩, g2, g8⟩
  rw [g5, h4, n2, List.length_reverse]
set_option maxRecDepth 100000 in
/-- an operand stands, then the minus signs -/
theorem zq_r_operandEnd (hs : zq_SEM T n w J stp ht) {M : MS} {s : σ} {base u : List zq_SG} {d p wa : Int} (hq : zq_MQ T n w M p (base ++ u) d wa) (htop : zq_topR base 3) (hu : ∀ x ∈ u, x.1 = 109) (hJ : J M s) (hlen : base.length + u.length ≤ 30) (hh : 1 ≤ ht s) :
    (∀ s', zq_rO stp (zq_negs u.length) s = .ok s' → ht s' = ht s ∧ ∃ M', q_Mo_operand_109 M = some (1, M') ∧ zq_MQ T n w M' p base (d - u.length) wa ∧ J M' s' ∧ zq_KF M M') ∧
    (∀ e, zq_rO stp (zq_negs u.length) s = .error e → zq_FL M e (q_Mo_operand_109 M)) := by
  obtain ⟨a1, a2⟩ := zq_r_negs hs hq htop hu hJ hlen hh
  refine ⟨fun s' hs' => ?_, fun e he => zq_FL_bind (a2 e he) zq_f01⟩
  obtain ⟨g0, M1, g1, g2⟩ := a1 s' hs'
  exact ⟨g0, M1, by rw [q_Mo_operand_109, zq_mb2_eq g1]; rfl, g2⟩
set_option maxRecDepth 100000 in
/-- a closing bracket -/
theorem zq_r_close (hs : zq_SEM T n w J stp ht) {M : MS} {s : σ} {base u pend : List zq_SG} {zq_pl d p : Int} (hq : zq_MQ T n w M p (base ++ u ++ [((40 : Int), zq_pl)] ++ pend.reverse) d 0) (htop : zq_topR base 3) (hok : zq_okSt base) (hu : ∀ x ∈ u, x.1 = 109) (hJ : J M s) (hpe : ∀ x ∈ pend, zq_bsg x.1 ∧ (1 : Int) ≤ zq_rk x.1) (hlen : base.length + u.length + pend.length ≤ 29) (hh : 1 + pend.length ≤ ht s) (hk : zq_tK T n p = 41) :
    (∀ s2 q, zq_rO stp (pend.map zq_popOp) s = .ok s2 → zq_pAdv T n p = .ok q → ht s2 + pend.length = ht s ∧ (∀ s3, zq_rO stp (zq_negs u.length) s2 = .ok s3 → ht s3 = ht s2 ∧ ∃ M', s_Mo_operator M = some (1, M') ∧ zq_MQ T n w M' q base (d - 1 - u.length) 0 ∧ J M' s3 ∧ zq_KF M M') ∧ (∀ e, zq_rO stp (zq_negs u.length) s2 = .error e → zq_FL M e (s_Mo_operator M))) ∧
    (∀ s2 e, zq_rO stp (pend.map zq_popOp) s = .ok s2 → zq_pAdv T n p = .error e → zq_FL M e (s_Mo_operator M)) ∧
    (∀ e, zq_rO stp (pend.map zq_popOp) s = .error e → zq_FL M e (s_Mo_operator M)) := by
  obtain ⟨h1, h2, h3, h4, h5⟩ := hq
  have hkk := zq_mk_iff (zq_tK_set T n p)
  have ek : M.m_kind = 41 := by rw [h2.2.1]; exact (hkk.2.2.2.2.1 41 (by omega) (by omega)).mpr hk
  obtain ⟨n1, n2⟩ := zq_nB_b (fun x hx => (hpe x hx).1)
  have hop := zq_r_isOpen h3 (by simp; omega) (by
    intro x hx
    rcases List.mem_append.mp hx with z | z
    · rcases List.mem_append.mp z with z | z
      · rcases List.mem_append.mp z with z | z
        · exact hok x z
        · rw [hu x z]; omega
      · simp at z; subst z; exact ⟨by show (0 : Int) ≤ 40; omega, by show (40 : Int) ≤ 400; omega⟩
    · have := (hpe x (List.mem_reverse.mp z)).1; unfold zq_bsg at this; omega)
  have e0 : s_Mo_operator M = mb2 (s_Mo_doneTo M 1) zq_kCl1 := by
    rw [s_Mo_operator, ek, zq_mb1_eq (zq_r_rank (by omega)), show zq_rk 41 = 0 by decide, if_neg (by decide), if_neg (by decide), if_pos (by decide), zq_mb2_eq hop, if_neg (by rw [zq_b01_0]; simp)]; rfl
  rw [e0, s_Mo_doneTo]
  obtain ⟨d1, d2⟩ := zq_E_doneTo hs (r := 1) (by omega) (base := base ++ u ++ [((40 : Int), zq_pl)]) (zq_topR_snoc ⟨by show (0 : Int) ≤ 40; omega, by show (40 : Int) ≤ 400; omega, by show zq_rk 40 < 1; decide⟩) pend fU M s h1 hJ h3 (by simp; omega) (fun x hx => ⟨Or.inl (hpe x hx).1, (hpe x hx).2⟩) (by omega) (zq_fU_gt (by omega))
  have step : ∀ s2, zq_rO stp (pend.map zq_popOp) s = .ok s2 → ht s2 + pend.length = ht s ∧ ∃ M2, mb2 (q_Mo_doneTo_2 fU 1 1 M) zq_kCl1 = mb2 (s_Mo_next M2) zq_kCl2 ∧ zq_MQ T n w M2 p (base ++ u) (d - 1) 0 ∧ J M2 s2 ∧ zq_KF M M2 := by
    intro s2 hs2
    obtain ⟨g0, M1, g1, g2, g3, g4, g5, g6, g7, g8⟩ := d1 s2 hs2
    refine ⟨by omega, MS.w_m_open (MS.w_m_signCount M1 (M1.m_signCount - 1)) (M1.m_open - 1), ?_, ⟨g3, zq_MP_pl h2 g6, ?_, ?_, ?_⟩, ?_, g8⟩
    · rw [zq_mb2_eq g1]; exact if_neg (by decide)
    · refine zq_sg_less (r := [((40 : Int), zq_pl)]) g4 rfl rfl ?_
      show M1.m_signCount - 1 = _
      rw [g4.1]; simp; omega
    · show M1.m_open - 1 = _; rw [g5, h4, n2]; omega
    · show M1.m_wants = 0; rw [g7]; exact h5
    · exact hs.1 M1 s2 M1.m_kind M1.m_from M1.m_to M1.m_amount M1.m_signs M1.m_signPlaces (M1.m_signCount - 1) (M1.m_open - 1) M1.m_wants g2
  refine ⟨fun s2 q hs2 hqq => ?_, fun s2 e hs2 he => ?_, fun e he => zq_FL_bind (d2 e he) (fun S => if_pos (by decide))⟩
  · obtain ⟨g0, M2, g1, ⟨m1, m2, m3, m4, m5⟩, g3, g4⟩ := step s2 hs2
    refine ⟨g0, ?_⟩
    rw [g1]
    obtain ⟨a1, a2⟩ := zq_r_next m1 m2
    obtain ⟨x, i1, i2, i3⟩ := a1 q hqq
    have ei : mb2 (s_Mo_next M2) zq_kCl2 = mb2 (s_Mo_doneTo (zq_mxs M2 (zq_mk (zq_tK T n q)) (zq_tA T n q) (zq_tB T n q) x) 3) (fun r39 S39 => if w32 r39 = 0 then some (0, S39) else some (1, S39)) := by
      rw [zq_mb2_eq i1]; exact if_neg (by decide)
    rw [ei]
    have hJ3 : J (zq_mxs M2 (zq_mk (zq_tK T n q)) (zq_tA T n q) (zq_tB T n q) x) s2 := hs.1 M2 s2 (zq_mk (zq_tK T n q)) (zq_tA T n q) (zq_tB T n q) x M2.m_signs M2.m_signPlaces M2.m_signCount M2.m_open M2.m_wants g3
    have hq3 : zq_MQ T n w (zq_mxs M2 (zq_mk (zq_tK T n q)) (zq_tA T n q) (zq_tB T n q) x) q (base ++ u) (d - 1) 0 := ⟨m1, i2, m3, m4, m5⟩
    obtain ⟨b1, b2⟩ := zq_r_negs hs hq3 htop hu hJ3 (by omega) (by omega)
    refine ⟨fun s3 hs3 => ?_, fun e he => zq_FL_KF (zq_FL_bind (b2 e he) (fun S => by rw [if_pos (by decide)])) g4⟩
    obtain ⟨j0, M4, j1, j2, j3, j4⟩ := b1 s3 hs3
    exact ⟨j0, M4, by rw [zq_mb2_eq j1, if_neg (by decide)], j2, j3, zq_KF_tr g4 j4⟩
  · obtain ⟨g0, M2, g1, ⟨m1, m2, m3, m4, m5⟩, g3, g4⟩ := step s2 hs2
    rw [g1]
    obtain ⟨a1, a2⟩ := zq_r_next m1 m2
    exact zq_FL_KF (zq_FL_bind (a2 e he) (fun S => if_pos (by decide))) g4
set_option maxRecDepth 100000 in
/-- something else stands where an operand is complete -/
theorem zq_r_bad {M : MS} {st : List zq_SG} {d p : Int} (hq : zq_MQ T n w M p st d 0) (hk : ¬ zq_bsg (zq_tK T n p)) (hst : st.length ≤ 31) (hok : zq_okSt st) (h41 : zq_tK T n p = 41 → st.any (fun x => x.1 == 40) = false) (h301 : zq_tK T n p = 301 → st.any (fun x => x.1 == 40) = true) (f : Nat) : zq_FL M (2, zq_tA T n p) (q_Mo_question_35 (f + 2) 1 M) := by
  have hkk := zq_mk_iff (zq_tK_set T n p)
  have hop := zq_r_isOpen hq.2.2.1 hst hok
  have hfc := hq.1.2.2.2.2.1.1
  have hfr : M.m_from = zq_tA T n p := hq.2.1.2.2.1
  by_cases c1 : zq_tK T n p = 301
  · rw [zq_q_end hq (f + 1) c1, q_Mo_question_75, if_neg (by decide), zq_mb2_eq hop, if_neg (by rw [zq_b01_0, h301 c1]; simp), hfr]
    exact zq_r_flaw2 hfc 2 _
  · rw [zq_q_opr hq (f + 1) c1]
    refine zq_FL_bind ?_ (fun S => zq_q35_0 f S)
    have hr : zq_rk M.m_kind = 0 := by
      rw [hq.2.1.2.1]
      unfold zq_rk
      have k1 := hkk.2.2.2.2.1
      unfold zq_bsg at hk
      have : ∀ v, 37 ≤ v → v ≤ 125 → zq_tK T n p ≠ v → ¬ zq_mk (zq_tK T n p) = v := fun v a b c z => c ((k1 v a b).mp z)
      have t1 := this 43 (by omega) (by omega) (by omega)
      have t2 := this 45 (by omega) (by omega) (by omega)
      have t3 := this 42 (by omega) (by omega) (by omega)
      have t4 := this 47 (by omega) (by omega) (by omega)
      have t5 := this 37 (by omega) (by omega) (by omega)
      rw [if_neg (by omega), if_neg (by omega), if_neg]
      intro z
      have := (k1 109 (by omega) (by omega)).mp z
      -- 109 is no token
      have hs := zq_tK_sgn T n p
      omega
    have hkr : 0 ≤ M.m_kind ∧ M.m_kind ≤ 400 := by rw [hq.2.1.2.1]; exact hkk.2.2.2.2.2.2
    rw [s_Mo_operator, zq_mb1_eq (zq_r_rank hkr), hr, if_neg (by decide), if_neg (by decide), zq_w32i (z := M.m_kind) (by omega) (by omega)]
    have q90 : zq_FL M (2, zq_tA T n p) (q_Mo_operator_90 M) := by rw [q_Mo_operator_90, hfr]; exact zq_r_flaw2 hfc 2 _
    by_cases c2 : zq_tK T n p = 41
    · rw [if_pos (by rw [hq.2.1.2.1]; exact (hkk.2.2.2.2.1 41 (by omega) (by omega)).mpr c2), zq_mb2_eq hop, if_pos (by rw [zq_b01_0, h41 c2]; simp)]
      exact q90
    · rw [if_neg (by rw [hq.2.1.2.1]; exact fun z => c2 ((hkk.2.2.2.2.1 41 (by omega) (by omega)).mp z))]
      exact q90
end
set_option maxRecDepth 100000 in
/-- what is read goes forward -/
theorem zq_pAdv_ge {T : Int → Int} {n : Int} (hT : zq_tpT T n) {p q : Int} (hp : (0 ≤ p ∧ p ≤ n) ∧ zq_tK T n p ≠ 300) (h : zq_pAdv T n p = .ok q) : (0 ≤ q ∧ q ≤ n) ∧ zq_tK T n q ≠ 300 ∧ zq_tA T n p ≤ zq_tA T n q ∧ (zq_tK T n p ≠ 301 → zq_tA T n p + 1 ≤ zq_tA T n q) := by
  unfold zq_pAdv at h
  split at h
  · cases h
  · rename_i c1
    cases h
    have R := zq_tok_R hT hp.1.1 hp.1.2
    have ga := zq_tA_ge T n p
    have gb := zq_tA_ge T n (zq_tB T n p)
    by_cases c2 : zq_tK T n p = 301
    · have := R.1 c2; exact ⟨⟨by omega, by omega⟩, c1, by omega, fun z => absurd c2 z⟩
    · have r1 := R.2.1 c2; have r2 := r1.2.2 hp.2; exact ⟨⟨by omega, by omega⟩, c1, by omega, fun _ => by omega⟩
set_option maxRecDepth 100000 in
theorem zq_pTake_ge {T : Int → Int} {n : Int} (hT : zq_tpT T n) {v p q : Int} (hp : (0 ≤ p ∧ p ≤ n) ∧ zq_tK T n p ≠ 300) (h : zq_pTake T n v p = .ok q) : (0 ≤ q ∧ q ≤ n) ∧ zq_tK T n q ≠ 300 ∧ zq_tA T n p ≤ zq_tA T n q := by
  unfold zq_pTake at h
  split at h
  · have := zq_pAdv_ge hT hp h; exact ⟨this.1, this.2.1, this.2.2.1⟩
  · cases h
set_option maxRecDepth 100000 in
theorem zq_pNames_ge {T : Int → Int} {n : Int} (hT : zq_tpT T n) : ∀ (m : Nat) (ns : List zq_NM) (p : Int) (y : Int × List zq_NM), (0 ≤ p ∧ p ≤ n) ∧ zq_tK T n p ≠ 300 → zq_pNames T n m ns p = .ok y → (0 ≤ y.1 ∧ y.1 ≤ n) ∧ zq_tK T n y.1 ≠ 300 ∧ zq_tA T n p ≤ zq_tA T n y.1
  | 0, ns, p, y, hp, h => by rw [zq_pNames] at h; cases h; exact ⟨hp.1, hp.2, Int.le_refl _⟩
  | m + 1, ns, p, y, hp, h => by
    rw [zq_pNames] at h
    split at h
    · split at h
      · cases h
      · cases h1 : zq_pAdv T n p with
        | error e => rw [h1] at h; cases h
        | ok q =>
          rw [h1, zq_pbd_ok] at h
          have a := zq_pAdv_ge hT hp h1
          split at h
          · cases h2 : zq_pAdv T n q with
            | error e => rw [h2] at h; cases h
            | ok q2 =>
              rw [h2, zq_pbd_ok] at h
              have b := zq_pAdv_ge hT ⟨a.1, a.2.1⟩ h2
              have c := zq_pNames_ge hT m _ q2 y ⟨b.1, b.2.1⟩ h
              exact ⟨c.1, c.2.1, by omega⟩
          · cases h; exact ⟨a.1, a.2.1, a.2.2.1⟩
    · cases h
set_option maxRecDepth 100000 in
theorem zq_pMatch_ge {T : Int → Int} {n : Int} (hT : zq_tpT T n) {p : Int} {y : Int × zq_MT} (hp : (0 ≤ p ∧ p ≤ n) ∧ zq_tK T n p ≠ 300) (h : zq_pMatch T n p = .ok y) : (0 ≤ y.1 ∧ y.1 ≤ n) ∧ zq_tK T n y.1 ≠ 300 ∧ zq_tA T n p ≤ zq_tA T n y.1 := by
  obtain ⟨q, r, h1, h2, h3, h4⟩ := zq_pMatch_2 h
  have a := zq_pTake_ge hT hp h1
  unfold zq_pSign at h2
  split at h2
  · have b := zq_pAdv_ge hT ⟨a.1, a.2.1⟩ h2
    have c := zq_pTake_ge hT ⟨b.1, b.2.1⟩ h3
    exact ⟨c.1, c.2.1, by omega⟩
  · cases h2
set_option maxRecDepth 100000 in
theorem zq_pMatches_ge {T : Int → Int} {n : Int} (hT : zq_tpT T n) : ∀ (m : Nat) (ms : List zq_MT) (p : Int) (y : Int × List zq_MT), (0 ≤ p ∧ p ≤ n) ∧ zq_tK T n p ≠ 300 → zq_pMatches T n m ms p = .ok y → (0 ≤ y.1 ∧ y.1 ≤ n) ∧ zq_tK T n y.1 ≠ 300 ∧ zq_tA T n p ≤ zq_tA T n y.1
  | 0, ms, p, y, hp, h => by rw [zq_pMatches] at h; cases h; exact ⟨hp.1, hp.2, Int.le_refl _⟩
  | m + 1, ms, p, y, hp, h => by
    rw [zq_pMatches] at h
    cases h1 : zq_pMatch T n p with
    | error e => rw [h1] at h; cases h
    | ok y1 =>
      rw [h1, zq_pbd_ok] at h
      have a := zq_pMatch_ge hT hp h1
      split at h
      · cases h2 : zq_pAdv T n y1.1 with
        | error e => rw [h2] at h; cases h
        | ok q2 =>
          rw [h2, zq_pbd_ok] at h
          have b := zq_pAdv_ge hT ⟨a.1, a.2.1⟩ h2
          have c := zq_pMatches_ge hT m _ q2 y ⟨b.1, b.2.1⟩ h
          exact ⟨c.1, c.2.1, by omega⟩
      · cases h; exact a
set_option maxRecDepth 100000 in
theorem zq_pBy_ge {T : Int → Int} {n : Int} (hT : zq_tpT T n) {p : Int} {y : Int × List zq_NM} (hp : (0 ≤ p ∧ p ≤ n) ∧ zq_tK T n p ≠ 300) (h : zq_pBy T n p = .ok y) : (0 ≤ y.1 ∧ y.1 ≤ n) ∧ zq_tK T n y.1 ≠ 300 ∧ zq_tA T n p ≤ zq_tA T n y.1 := by
  unfold zq_pBy at h
  split at h
  · cases h1 : zq_pAdv T n p with
    | error e => rw [h1] at h; cases h
    | ok q =>
      rw [h1, zq_pbd_ok] at h
      have a := zq_pAdv_ge hT hp h1
      cases h2 : zq_pTake T n 40 q with
      | error e => rw [h2] at h; cases h
      | ok q2 =>
        rw [h2, zq_pbd_ok] at h
        have b := zq_pTake_ge hT ⟨a.1, a.2.1⟩ h2
        cases h3 : zq_pNames T n n.toNat [] q2 with
        | error e => rw [h3] at h; cases h
        | ok y3 =>
          rw [h3, zq_pbd_ok] at h
          have c := zq_pNames_ge hT _ _ _ _ ⟨b.1, b.2.1⟩ h3
          cases h4 : zq_pTake T n 41 y3.1 with
          | error e => rw [h4] at h; cases h
          | ok q4 =>
            rw [h4, zq_pbd_ok] at h
            have d := zq_pTake_ge hT ⟨c.1, c.2.1⟩ h4
            cases h; exact ⟨d.1, d.2.1, by show zq_tA T n p ≤ zq_tA T n q4; omega⟩
  · cases h; exact ⟨hp.1, hp.2, Int.le_refl _⟩
set_option maxRecDepth 100000 in
theorem zq_pSel1_ge {T : Int → Int} {n : Int} (hT : zq_tpT T n) {p : Int} {y : Int × Int × List zq_MT} (hp : (0 ≤ p ∧ p ≤ n) ∧ zq_tK T n p ≠ 300) (h : zq_pSel1 T n p = .ok y) : (0 ≤ y.1 ∧ y.1 ≤ n) ∧ zq_tK T n y.1 ≠ 300 ∧ zq_tA T n p ≤ zq_tA T n y.1 := by
  unfold zq_pSel1 at h
  cases h1 : zq_pTake T n 40 p with
  | error e => rw [h1] at h; cases h
  | ok q =>
    rw [h1, zq_pbd_ok] at h
    have a := zq_pTake_ge hT hp h1
    cases h2 : zq_pTake T n 123 q with
    | error e => rw [h2] at h; cases h
    | ok q2 =>
      rw [h2, zq_pbd_ok] at h
      have b := zq_pTake_ge hT ⟨a.1, a.2.1⟩ h2
      have c : ∀ y3, (if zq_tK T n q2 = 125 then Except.ok (q2, []) else zq_pMatches T n n.toNat [] q2) = .ok y3 → (0 ≤ y3.1 ∧ y3.1 ≤ n) ∧ zq_tK T n y3.1 ≠ 300 ∧ zq_tA T n q2 ≤ zq_tA T n y3.1 := by
        intro y3 h3
        split at h3
        · cases h3; exact ⟨b.1, b.2.1, Int.le_refl _⟩
        · exact zq_pMatches_ge hT _ _ _ _ ⟨b.1, b.2.1⟩ h3
      cases h3 : (if zq_tK T n q2 = 125 then Except.ok (q2, []) else zq_pMatches T n n.toNat [] q2) with
      | error e => rw [h3] at h; cases h
      | ok y3 =>
        rw [h3, zq_pbd_ok] at h
        have c := c y3 h3
        cases h4 : zq_pTake T n 125 y3.1 with
        | error e => rw [h4] at h; cases h
        | ok q4 =>
          rw [h4, zq_pbd_ok] at h
          have d := zq_pTake_ge hT ⟨c.1, c.2.1⟩ h4
          cases h; exact ⟨d.1, d.2.1, by show zq_tA T n p ≤ zq_tA T n q4; omega⟩
set_option maxRecDepth 100000 in
theorem zq_pFunc_adv {T : Int → Int} {n : Int} (hT : zq_tpT T n) {kd p : Int} {y : Int × List zq_Od} (hp : 0 ≤ p ∧ p ≤ n) (h0 : zq_tK T n p ≠ 300 ∧ zq_tK T n p ≠ 301) (h : zq_pFunc T n kd p = .ok y) : zq_tA T n p + 1 ≤ zq_tA T n y.1 := by
  unfold zq_pFunc at h
  cases h1 : zq_pAdv T n p with
  | error e => rw [h1] at h; cases h
  | ok q =>
    rw [h1, zq_pbd_ok] at h
    have a := zq_pAdv_ge hT ⟨hp, h0.1⟩ h1
    have a4 := a.2.2.2 h0.2
    cases h2 : zq_pBy T n q with
    | error e => rw [h2] at h; cases h
    | ok y2 =>
      rw [h2, zq_pbd_ok, zq_pSel_1] at h
      have b := zq_pBy_ge hT ⟨a.1, a.2.1⟩ h2
      cases h3 : zq_pSel1 T n y2.1 with
      | error e => rw [h3] at h; cases h
      | ok z =>
        rw [h3, zq_pbd_ok] at h
        have c := zq_pSel1_ge hT ⟨b.1, b.2.1⟩ h3
        cases h4 : zq_pTake T n 41 z.1 with
        | error e => rw [h4] at h; cases h
        | ok q4 =>
          rw [h4, zq_pbd_ok, zq_pbd_ok] at h
          have d := zq_pTake_ge hT ⟨c.1, c.2.1⟩ h4
          cases h; show zq_tA T n p + 1 ≤ zq_tA T n q4; omega
section
variable {T : Int → Int} {n w : Int} {σ : Type} {J : MS → σ → Prop} {stp : σ → zq_Od → zq_PR σ} {ht : σ → Nat}
set_option maxRecDepth 100000 in
def zq_RESu (T : Int → Int) (n w : Int) (J : MS → σ → Prop) (stp : σ → zq_Od → zq_PR σ) (ht : σ → Nat) (f : Nat) (M : MS) (s : σ) (base u : List zq_SG) (d p : Int) (y : Int × List zq_Od) : Prop :=
  (∃ (f' : Nat) (M' : MS) (s1 : σ), q_Mo_question_35 f 1 M = q_Mo_question_35 f' 1 M' ∧ ((f : Int) ≤ f' + (zq_tA T n y.1 - zq_tA T n p) ∧ zq_tA T n p + 1 ≤ zq_tA T n y.1) ∧ zq_MQ T n w M' y.1 base (d - u.length) 0 ∧ J M' s1 ∧ zq_KF M M' ∧ ht s1 = ht s + 1 ∧ zq_rO stp (y.2 ++ zq_negs u.length) s = .ok s1) ∨
  (∃ e, zq_rO stp (y.2 ++ zq_negs u.length) s = .error e ∧ zq_FL M e (q_Mo_question_35 f 1 M))
set_option maxRecDepth 100000 in
def zq_MFc (T : Int → Int) (n w : Int) (J : MS → σ → Prop) (stp : σ → zq_Od → zq_PR σ) (ht : σ → Nat) (G : zq_PF) (d : Int) : Prop := ∀ (f : Nat) (M : MS) (s : σ) (base u : List zq_SG) (p : Int), zq_MQ T n w M p (base ++ u) d 1 → zq_topR base 3 → zq_okSt base → (∀ x ∈ u, x.1 = 109) → J M s → (ht s : Int) + 1 ≤ 2 * d + 3 → ((base ++ u).length : Int) ≤ d + ht s → n - zq_tA T n p + 10 ≤ f →
  (∀ y, G d p = .ok y → zq_RESu T n w J stp ht f M s base u d p y) ∧ (∀ e, w = 0 → G d p = .error e → zq_FL M e (q_Mo_question_35 f 1 M))
set_option maxRecDepth 100000 in
theorem zq_okSt_u {base u : List zq_SG} (h : zq_okSt base) (hu : ∀ x ∈ u, x.1 = 109) : zq_okSt (base ++ u) := by
  intro x hx
  rcases List.mem_append.mp hx with z | z
  · exact h x z
  · rw [hu x z]; omega
set_option maxRecDepth 100000 in
theorem zq_E_fac (hs : zq_SEM T n w J stp ht) (hTot : w = 0 → ∀ s o, ∃ s', stp s o = .ok s') {gS gF : zq_PF} {d : Int} (hd : 0 ≤ d ∧ d ≤ 8) (hS : d < 8 → zq_MLv T n w J stp ht 1 gS (d + 1)) (hF : d < 8 → zq_MFc T n w J stp ht gF (d + 1)) : zq_MFc T n w J stp ht (zq_pFac T n gS gF) d := by
  intro f M s base u p hq htop hok hu hJ hh hlen hf
  have hT := zq_MB_T hq.1
  have p1 := hq.2.1.1.1; have p2 := hq.2.1.1.2.1; have p3 := hq.2.1.1.2.2
  have R := zq_tok_R hT p1 p2
  have gle := zq_tA_le (T := T) p2
  have hkk := zq_mk_iff (zq_tK_set T n p)
  have hlen' : base.length + u.length ≤ 26 := by rw [List.length_append] at hlen; omega
  have tot : ∀ (hw : w = 0) (t : List zq_Od) (s : σ), ∃ s', zq_rO stp t s = .ok s' := by
    intro hw t
    induction t with
    | nil => intro s; exact ⟨s, rfl⟩
    | cons o r ih =>
      intro s
      obtain ⟨s1, h1⟩ := hTot hw s o
      obtain ⟨s2, h2⟩ := ih s1
      exact ⟨s2, by show zq_pbd (stp s o) (zq_rO stp r) = _; rw [h1]; exact h2⟩
  obtain ⟨f1, rfl⟩ : ∃ f1, f = f1 + 2 := ⟨f - 2, by omega⟩
  have hq0 : ∀ S : MS, q_Mo_question_35 (f1 + 1) 0 S = some (0, S) := fun S => zq_q35_0 f1 S
  rw [zq_q_opd hq (f1 + 1)]
  have hkr : 0 ≤ M.m_kind ∧ M.m_kind ≤ 400 := by rw [hq.2.1.2.1]; exact hkk.2.2.2.2.2.2
  have ek : M.m_kind = zq_mk (zq_tK T n p) := hq.2.1.2.1
  -- the state that wants no operand
  generalize hM1 : MS.w_m_wants M 0 = M1
  have hM1q : zq_MQ T n w M1 p (base ++ u) d 0 := by rw [← hM1]; exact ⟨hq.1, hq.2.1, hq.2.2.1, hq.2.2.2.1, rfl⟩
  have hJ1 : J M1 s := by
    have := hs.1 M s M.m_kind M.m_from M.m_to M.m_amount M.m_signs M.m_signPlaces M.m_signCount M.m_open 0 hJ
    rw [← hM1]; exact this
  have hK1 : zq_KF M M1 := by rw [← hM1]; rfl
  have hpile := hs.2.1 M1 s hJ1
  have e0 : s_Mo_operand M = if zq_tK T n p = 40 ∨ zq_tK T n p = 45 then mb2 (s_Mo_opens M (if zq_tK T n p = 45 then 109 else 40)) (fun r22 S22 => if r22 = 0 ∨ r22 = 1 then some (r22, S22) else none) else if zq_tK T n p = 302 ∨ zq_fnK T n p ≠ -1 then q_Mo_operand_71 (if zq_fnK T n p = -1 then -1 else zq_fnK T n p - 1) M1 else mb2 (s_Mo_flaw M1 2 M1.m_from) (fun r39 S39 => if r39 = 0 ∨ r39 = 1 then some (r39, S39) else none) := by
    have k45 := hkk.2.2.2.2.1 45 (by omega) (by omega)
    have k40 := hkk.2.2.2.2.1 40 (by omega) (by omega)
    have fR : -1 ≤ zq_fnK T n p ∧ zq_fnK T n p ≤ 7 := by unfold zq_fnK; repeat (split; omega); omega
    have f0 : zq_fnK T n p ≠ 0 := by unfold zq_fnK; repeat (split; omega); omega
    rw [s_Mo_operand, zq_w32i (z := M.m_kind) (by omega) (by omega), ek]
    by_cases c1 : zq_tK T n p = 45
    · rw [if_pos (k45.mpr c1), if_pos (Or.inr c1), if_pos c1, q_Mo_operand_18, zq_w32i (z := M.m_kind) (by omega) (by omega), ek, if_pos (k45.mpr c1)]; rfl
    · rw [if_neg (fun z => c1 (k45.mp z))]
      by_cases c2 : zq_tK T n p = 40
      · rw [if_pos (k40.mpr c2), if_pos (Or.inl c2), if_neg c1, q_Mo_operand_18, zq_w32i (z := M.m_kind) (by omega) (by omega), ek, if_neg (fun z => c1 (k45.mp z))]; rfl
      · rw [if_neg (fun z => c2 (k40.mp z)), if_neg (by omega), hM1, zq_mb2_eq (zq_r_function hM1q.1 hM1q.2.1)]
        have hk1 : M1.m_kind = zq_mk (zq_tK T n p) := hM1q.2.1.2.1
        rw [hk1, zq_w32i (z := zq_mk (zq_tK T n p)) (by omega) (by omega)]
        by_cases c3 : zq_tK T n p = 302
        · rw [if_pos (hkk.2.1.mpr c3), if_pos (Or.inl c3)]
        · rw [if_neg (fun z => c3 (hkk.2.1.mp z))]
          by_cases c4 : zq_fnK T n p = -1
          · rw [if_pos c4, if_neg (by decide), if_neg (by rintro (z | z); exact c3 z; exact z c4)]
          · rw [if_neg c4, zq_w32i (z := zq_fnK T n p - 1) (by omega) (by omega), if_pos (by omega), if_pos (Or.inr c4)]
  rw [e0]
  unfold zq_pFac
  by_cases c302 : zq_tK T n p = 302
  · -- a number
    have fn1 : zq_fnK T n p = -1 := by
      cases hh : decide (zq_fnK T n p = -1) with
      | true => exact of_decide_eq_true hh
      | false => have := zq_fnK_303 (of_decide_eq_false hh); omega
    rw [if_pos c302, if_neg (by omega), if_pos (Or.inl c302), fn1, if_pos rfl]
    have hR1 := R.2.1 (by omega)
    obtain ⟨s2, M2, g1, g2, g3, g4, g5⟩ := hs.2.2.1 M1 s hM1q.1 hJ1 (by omega)
    have hamt : M1.m_amount = zq_tX T n p := hM1q.2.1.2.2.2.2 c302
    rw [hamt] at g1
    have eo : q_Mo_operand_71 (-1) M1 = q_Mo_operand_100 M2 := by
      rw [q_Mo_operand_71, if_pos (by decide), q_Mo_operand_85, if_neg (by decide)]
      exact g5 q_Mo_operand_100
    rw [eo, q_Mo_operand_100]
    have hB2 := zq_MB_AF hM1q.1 g4
    have hpl := zq_pl_1 g4.1
    have hP2 : zq_MP T n M2 p := zq_MP_pl hM1q.2.1 ⟨hpl.1, hpl.2.1, hpl.2.2.1, hpl.2.2.2.1⟩
    have hSt2 : zq_MSt M2 (base ++ u) := by
      have := hM1q.2.2.1
      refine ⟨by rw [hpl.2.2.2.2.2.2.1]; exact this.1, fun i x hx => ?_⟩
      rw [hpl.2.2.2.2.1, hpl.2.2.2.2.2.1]; exact this.2 i x hx
    have hK2 : zq_KF M M2 := zq_KF_tr hK1 g4.2.1
    obtain ⟨a1, a2⟩ := zq_r_next hB2 hP2
    cases h1 : zq_pAdv T n p with
    | error e =>
      refine ⟨fun y hy => (by cases hy), fun e' hw he => ?_⟩
      cases he
      exact zq_FL_KF (zq_FL_bind (zq_FL_bind (a2 e h1) (fun S => by rw [if_pos (by decide)])) hq0) hK2
    | ok q =>
      obtain ⟨x, i1, i2, i3⟩ := a1 q h1
      refine ⟨fun y hy => ?_, fun e' hw he => (by cases he)⟩
      rw [zq_pbd_ok] at hy; cases hy
      have gq := zq_tA_ge T n q
      have hJ3 : J (zq_mxs M2 (zq_mk (zq_tK T n q)) (zq_tA T n q) (zq_tB T n q) x) s2 := hs.1 M2 s2 (zq_mk (zq_tK T n q)) (zq_tA T n q) (zq_tB T n q) x M2.m_signs M2.m_signPlaces M2.m_signCount M2.m_open M2.m_wants g3
      have hq3 : zq_MQ T n w (zq_mxs M2 (zq_mk (zq_tK T n q)) (zq_tA T n q) (zq_tB T n q) x) q (base ++ u) d 0 := ⟨hB2, i2, hSt2, by show M2.m_open = d; rw [hpl.2.2.2.2.2.2.2.1]; exact hM1q.2.2.2.1, by show M2.m_wants = 0; rw [hpl.2.2.2.2.2.2.2.2]; exact hM1q.2.2.2.2⟩
      obtain ⟨b1, b2⟩ := zq_r_operandEnd hs hq3 htop hu hJ3 (by omega) (by omega)
      have eR : zq_rO stp ([((302 : Int), zq_tX T n p, 0, 0, [], [])] ++ zq_negs u.length) s = zq_rO stp (zq_negs u.length) s2 := by
        rw [zq_rO_app]; show zq_pbd (zq_pbd (stp s _) _) _ = _; rw [g1]; rfl
      have eq : mb2 (mb2 (s_Mo_next M2) (fun r30 S30 => if w32 r30 = 0 then some (0, S30) else q_Mo_operand_109 S30)) (fun r S => q_Mo_question_35 (f1 + 1) r S) = mb2 (q_Mo_operand_109 (zq_mxs M2 (zq_mk (zq_tK T n q)) (zq_tA T n q) (zq_tB T n q) x)) (fun r S => q_Mo_question_35 (f1 + 1) r S) := by
        rw [zq_mb2_eq i1, if_neg (by decide)]
      unfold zq_RESu
      rw [zq_q_opd hq (f1 + 1), e0, if_neg (by omega), if_pos (Or.inl c302), fn1, if_pos rfl, eo, q_Mo_operand_100, eq, eR]
      cases hr : zq_rO stp (zq_negs u.length) s2 with
      | error e => exact Or.inr ⟨e, rfl, zq_FL_KF (zq_FL_bind (b2 e hr) hq0) hK2⟩
      | ok s3 =>
        obtain ⟨j0, M4, j1, j2, j3, j4⟩ := b1 s3 hr
        refine Or.inl ⟨f1 + 1, M4, s3, by rw [zq_mb2_eq j1], ⟨by show ((f1 + 2 : Nat) : Int) ≤ ((f1 + 1 : Nat) : Int) + (zq_tA T n q - zq_tA T n p); omega, by show zq_tA T n p + 1 ≤ zq_tA T n q; omega⟩, j2, j3, zq_KF_tr hK2 j4, by omega, rfl⟩
  · rw [if_neg c302]
    by_cases c2 : zq_tK T n p = 40 ∨ zq_tK T n p = 45
    · rw [if_pos c2, if_pos c2]
      unfold zq_pOpen
      have hR1 := R.2.1 (by omega)
      have hop : M.m_open = d := hq.2.2.2.1
      have hsc : M.m_signCount = ((base ++ u).length : Int) := hq.2.2.1.1
      have hfr : M.m_from = zq_tA T n p := hq.2.1.2.2.1
      rw [s_Mo_opens, hop, zq_w32i (z := d) (by omega) (by omega)]
      by_cases c3 : d < 8
      · rw [if_pos c3, if_neg (show ¬ d = 8 by omega), hsc, if_pos (show (0 : Int) ≤ ((base ++ u).length : Int) ∧ ((base ++ u).length : Int) < 32 by rw [List.length_append]; omega), if_pos (show (0 : Int) ≤ ((base ++ u).length : Int) ∧ ((base ++ u).length : Int) < 32 by rw [List.length_append]; omega), hfr]
        generalize hgv : (if zq_tK T n p = 45 then (109 : Int) else 40) = gv
        generalize hM2 : MS.w_m_signCount (MS.w_m_signPlaces (MS.w_m_signs (MS.w_m_open M (d + 1)) (aU M.m_signs ((base ++ u).length : Int) gv)) (aU M.m_signPlaces ((base ++ u).length : Int) (zq_tA T n p))) (((base ++ u).length : Int) + 1) = M2
        have hJ2 : J M2 s := by
          have := hs.1 M s M.m_kind M.m_from M.m_to M.m_amount (aU M.m_signs ((base ++ u).length : Int) gv) (aU M.m_signPlaces ((base ++ u).length : Int) (zq_tA T n p)) (((base ++ u).length : Int) + 1) (d + 1) M.m_wants hJ
          rw [← hM2]; exact this
        have hB2 : zq_MB T n w M2 := by rw [← hM2]; exact hq.1
        have hP2 : zq_MP T n M2 p := by rw [← hM2]; exact hq.2.1
        have hK2 : zq_KF M M2 := by rw [← hM2]; rfl
        have hSt2 : zq_MSt M2 (base ++ u ++ [(gv, zq_tA T n p)]) := by
          refine zq_MSt_push hq.2.2.1 ?_ ?_ ?_
          · rw [← hM2]
          · rw [← hM2]
          · rw [← hM2]
        obtain ⟨a1, a2⟩ := zq_r_next2 hB2 hP2
        cases h1 : zq_pAdv T n p with
        | error e =>
          refine ⟨fun y hy => (by cases hy), fun e' hw he => ?_⟩
          cases he
          exact zq_FL_KF (zq_FL_bind (zq_FL_bind (a2 e h1) zq_f01) hq0) hK2
        | ok q =>
          obtain ⟨x, i1, i2, i3⟩ := a1 q h1
          have gq := zq_tA_ge T n q
          rw [zq_pbd_ok]
          have hJ3 : J (zq_mxs M2 (zq_mk (zq_tK T n q)) (zq_tA T n q) (zq_tB T n q) x) s := hs.1 M2 s (zq_mk (zq_tK T n q)) (zq_tA T n q) (zq_tB T n q) x M2.m_signs M2.m_signPlaces M2.m_signCount M2.m_open M2.m_wants hJ2
          have hq3 : zq_MQ T n w (zq_mxs M2 (zq_mk (zq_tK T n q)) (zq_tA T n q) (zq_tB T n q) x) q (base ++ u ++ [(gv, zq_tA T n p)]) (d + 1) 1 := ⟨hB2, i2, hSt2, by rw [← hM2]; rfl, by rw [← hM2]; exact hq.2.2.2.2⟩
          have hK3 : zq_KF M (zq_mxs M2 (zq_mk (zq_tK T n q)) (zq_tA T n q) (zq_tB T n q) x) := hK2
          generalize hM3 : zq_mxs M2 (zq_mk (zq_tK T n q)) (zq_tA T n q) (zq_tB T n q) x = M3 at *
          have eM : q_Mo_question_35 (f1 + 2) 1 M = q_Mo_question_35 (f1 + 1) 1 M3 := by
            rw [zq_q_opd hq (f1 + 1), e0, if_pos c2, s_Mo_opens, hop, zq_w32i (z := d) (by omega) (by omega), if_neg (by omega), hsc, if_pos (show (0 : Int) ≤ ((base ++ u).length : Int) ∧ ((base ++ u).length : Int) < 32 by rw [List.length_append]; omega), if_pos (show (0 : Int) ≤ ((base ++ u).length : Int) ∧ ((base ++ u).length : Int) < 32 by rw [List.length_append]; omega), hfr, hgv, hM2, i1]; rfl
          have eM2 : mb2 (mb2 (mb2 (s_Mo_next M2) (fun r11 S11 => if r11 = 0 ∨ r11 = 1 then some (r11, S11) else none)) (fun r22 S22 => if r22 = 0 ∨ r22 = 1 then some (r22, S22) else none)) (fun r S => q_Mo_question_35 (f1 + 1) r S) = q_Mo_question_35 (f1 + 1) 1 M3 := by
            rw [i1]; rfl
          rw [eM2]
          by_cases c4 : zq_tK T n p = 40
          · -- a bracket
            rw [if_pos c4]
            have hgv2 : gv = 40 := by rw [← hgv, if_neg (by omega)]
            rw [hgv2] at hq3 hSt2
            have hok3 : zq_okSt (base ++ u ++ [((40 : Int), zq_tA T n p)]) := by
              intro x hx
              rcases List.mem_append.mp hx with z | z
              · exact zq_okSt_u hok hu x z
              · simp at z; subst z; exact ⟨by show (0 : Int) ≤ 40; omega, by show (40 : Int) ≤ 400; omega⟩
            obtain ⟨j1, j2⟩ := hS c3 (f1 + 1) M3 s (base ++ u ++ [((40 : Int), zq_tA T n p)]) q hq3 (zq_topR_snoc ⟨by show (0 : Int) ≤ 40; omega, by show (40 : Int) ≤ 400; omega, by show zq_rk 40 < 1; decide⟩) hok3 hJ3 (by omega) (by rw [List.length_append] at hlen ⊢; rw [List.length_append]; simp; omega) (by omega)
            cases h2 : gS (d + 1) q with
            | error e =>
              refine ⟨fun y hy => (by cases hy), fun e' hw he => ?_⟩
              cases he
              exact zq_FL_KF (j2 e hw h2) hK3
            | ok y2 =>
              rw [zq_pbd_ok]
              have res := j1 y2 h2
              unfold zq_RESu
              rw [eM]
              rcases res with ⟨f4, M4, pend, s4, k1, k2, k3, k4, k5, k6, k7, k8, k9, k10⟩ | ⟨e, k1, k2⟩
              · rw [k1]
                have hK4 := zq_KF_tr hK3 k5
                have y1r := k3.2.1.1
                have zq_gy := zq_tA_le (T := T) y1r.2.1
                obtain ⟨f5, rfl⟩ : ∃ f5, f4 = f5 + 2 := ⟨f4 - 2, by omega⟩
                have hq05 : ∀ S : MS, q_Mo_question_35 (f5 + 1) 0 S = some (0, S) := fun S => zq_q35_0 f5 S
                by_cases c41 : zq_tK T n y2.1 = 41
                · have cl := zq_r_close hs k3 htop hok hu k4 (fun x hx => by have := k6 x hx; exact ⟨this.1, by omega⟩) (by omega) (by omega) c41
                  obtain ⟨cl1, cl2, cl3⟩ := cl
                  have eqr := zq_q_opr k3 (f5 + 1) (by omega)
                  have Ry := (zq_tok_R hT y1r.1 y1r.2.1).2.1 (by omega)
                  cases h3 : zq_pTake T n 41 y2.1 with
                  | error e =>
                    refine ⟨fun y hy => (by cases hy), fun e' hw he => ?_⟩
                    cases he
                    rw [zq_pTake, if_pos c41] at h3
                    obtain ⟨s9, h9⟩ := tot hw (pend.map zq_popOp) s4
                    rw [eqr]
                    exact zq_FL_KF (zq_FL_bind (cl2 s9 e h9 h3) hq05) hK4
                  | ok q5 =>
                    rw [zq_pbd_ok]
                    refine ⟨fun y hy => ?_, fun e' hw he => (by cases he)⟩
                    cases hy
                    rw [zq_pTake, if_pos c41] at h3
                    show (∃ f' M' s1, _ = _ ∧ (_ ≤ _ + (zq_tA T n q5 - zq_tA T n p) ∧ zq_tA T n p + 1 ≤ zq_tA T n q5) ∧ zq_MQ T n w M' q5 base (d - u.length) 0 ∧ _ ∧ _ ∧ _ ∧ zq_rO stp (y2.2 ++ zq_negs u.length) s = _) ∨ (∃ e, zq_rO stp (y2.2 ++ zq_negs u.length) s = .error e ∧ _)
                    rw [zq_rO_app, ← k9, eqr]
                    have hq5 : q5 = zq_tB T n y2.1 := by
                      unfold zq_pAdv at h3; split at h3
                      · cases h3
                      · injection h3 with h3; exact h3.symm
                    have gq5 := zq_tA_ge T n q5
                    cases hr : zq_rO stp (pend.map zq_popOp) s4 with
                    | error e => exact Or.inr ⟨e, rfl, zq_FL_KF (zq_FL_bind (cl3 e hr) hq05) hK4⟩
                    | ok s5 =>
                      obtain ⟨c0, cc1, cc2⟩ := cl1 s5 q5 hr h3
                      rw [zq_pbd_ok]
                      cases hr2 : zq_rO stp (zq_negs u.length) s5 with
                      | error e => exact Or.inr ⟨e, rfl, zq_FL_KF (zq_FL_bind (cc2 e hr2) hq05) hK4⟩
                      | ok s6 =>
                        obtain ⟨cd0, M6, cd1, cd2, cd3, cd4⟩ := cc1 s6 hr2
                        refine Or.inl ⟨f5 + 1, M6, s6, by rw [zq_mb2_eq cd1], ⟨by omega, by omega⟩, ?_, cd3, zq_KF_tr hK4 cd4, by omega, rfl⟩
                        rw [show d + 1 - 1 - (u.length : Int) = d - u.length by omega] at cd2
                        exact cd2
                · have e41 : zq_pTake T n 41 y2.1 = .error (2, zq_tA T n y2.1) := by rw [zq_pTake, if_neg c41]
                  rw [e41]
                  refine ⟨fun y hy => (by cases hy), fun e' hw he => ?_⟩
                  cases he
                  refine zq_FL_KF (zq_r_bad k3 (fun z => ?_) (by simp; omega) ?_ (fun z => absurd z c41) (fun _ => by simp) f5) hK4
                  · have := k10 z
                    have := (zq_rk_b z).1
                    omega
                  · intro x hx
                    rcases List.mem_append.mp hx with z | z
                    · exact hok3 x z
                    · have := (k6 x (List.mem_reverse.mp z)).1; unfold zq_bsg at this; omega
              · refine ⟨fun y hy => ?_, fun e' hw he => ?_⟩
                · cases h3 : zq_pTake T n 41 y2.1 with
                  | error e => rw [h3] at hy; cases hy
                  | ok q5 =>
                    rw [h3, zq_pbd_ok] at hy; cases hy
                    refine Or.inr ⟨e, ?_, zq_FL_KF k2 hK3⟩
                    show zq_rO stp (y2.2 ++ zq_negs u.length) s = _
                    rw [zq_rO_app, k1]; rfl
                · obtain ⟨s9, h9⟩ := tot hw y2.2 s
                  rw [h9] at k1; cases k1
          · -- a minus sign
            rw [if_neg c4]
            have c45 : zq_tK T n p = 45 := by omega
            have hgv2 : gv = 109 := by rw [← hgv, if_pos c45]
            rw [hgv2, List.append_assoc] at hq3
            obtain ⟨j1, j2⟩ := hF c3 (f1 + 1) M3 s base (u ++ [((109 : Int), zq_tA T n p)]) q hq3 htop hok (fun x hx => by
              rcases List.mem_append.mp hx with z | z
              · exact hu x z
              · simp at z; subst z; rfl) hJ3 (by omega) (by rw [← List.append_assoc, List.length_append]; simp at hlen ⊢; omega) (by omega)
            cases h2 : gF (d + 1) q with
            | error e =>
              refine ⟨fun y hy => (by cases hy), fun e' hw he => ?_⟩
              cases he
              exact zq_FL_KF (j2 e hw h2) hK3
            | ok y2 =>
              rw [zq_pbd_ok]
              refine ⟨fun y hy => ?_, fun e' hw he => (by cases he)⟩
              cases hy
              have eR : y2.2 ++ [((311 : Int), ll 0, 0, 0, [], [])] ++ zq_negs u.length = y2.2 ++ zq_negs (u ++ [((109 : Int), zq_tA T n p)]).length := by
                rw [List.append_assoc]; congr 1
                unfold zq_negs; rw [List.length_append]; exact List.replicate_succ.symm
              have res := j1 y2 h2
              unfold zq_RESu
              show (∃ f' M' s1, _ = _ ∧ (_ ≤ _ + (zq_tA T n y2.1 - zq_tA T n p) ∧ zq_tA T n p + 1 ≤ zq_tA T n y2.1) ∧ zq_MQ T n w M' y2.1 base (d - u.length) 0 ∧ _ ∧ _ ∧ _ ∧ zq_rO stp (y2.2 ++ [((311 : Int), ll 0, 0, 0, [], [])] ++ zq_negs u.length) s = _) ∨ (∃ e, zq_rO stp (y2.2 ++ [((311 : Int), ll 0, 0, 0, [], [])] ++ zq_negs u.length) s = .error e ∧ _)
              rw [eM, eR]
              rcases res with ⟨f4, M4, s4, k1, k2, k3, k4, k5, k6, k7⟩ | ⟨e, k1, k2⟩
              · refine Or.inl ⟨f4, M4, s4, k1, ⟨by omega, by omega⟩, ?_, k4, zq_KF_tr hK3 k5, k6, k7⟩
                rw [show d + 1 - (((u ++ [((109 : Int), zq_tA T n p)]).length : Nat) : Int) = d - u.length by simp; omega] at k3
                exact k3
              · exact Or.inr ⟨e, k1, zq_FL_KF k2 hK3⟩
      · rw [if_neg c3, if_pos (show d = 8 by omega)]
        refine ⟨fun y hy => (by cases hy), fun e' hw he => ?_⟩
        cases he
        rw [hq.2.1.2.2.1]
        exact zq_FL_bind (zq_FL_bind (zq_r_flaw2 hq.1.2.2.2.2.1.1 3 _) zq_f01) hq0
    · rw [if_neg c2, if_neg c2]
      by_cases c3 : zq_fnK T n p = -1
      · rw [if_pos c3, if_neg (by rintro (z | z); exact c302 z; exact z c3)]
        refine ⟨fun y hy => (by cases hy), fun e' hw he => ?_⟩
        cases he
        rw [hM1q.2.1.2.2.1]
        exact zq_FL_KF (zq_FL_bind (zq_r_flaw2 hM1q.1.2.2.2.2.1.1 2 _) hq0) hK1
      · -- a function
        rw [if_neg c3, if_pos (Or.inr c3), if_neg c3]
        have fR : 1 ≤ zq_fnK T n p ∧ zq_fnK T n p ≤ 7 := by
          have h1 : zq_fnK T n p ≤ 7 := by unfold zq_fnK; repeat (split; omega); omega
          have h2 : zq_fnK T n p = -1 ∨ 1 ≤ zq_fnK T n p := by unfold zq_fnK; repeat (split; omega); omega
          omega
        have hR1 := R.2.1 (by have := zq_fnK_303 c3; omega)
        obtain ⟨r1, r2⟩ := zq_r_called hM1q.1 hM1q.2.1 (by omega) (zq_fnK T n p - 1) (zq_fnK T n p)
        have eo : q_Mo_operand_71 (zq_fnK T n p - 1) M1 = mb2 (s_Mo_called M1 (zq_fnK T n p - 1)) (fun r25 S25 => if w32 r25 = 0 then some (0, S25) else q_Mo_operand_109 S25) := by
          rw [q_Mo_operand_71, zq_w32i (z := zq_fnK T n p - 1) (by omega) (by omega), if_neg (by omega)]
          have : ∀ S25, q_Mo_operand_85 (zq_fnK T n p - 1) S25 = q_Mo_operand_109 S25 := fun S25 => by
            rw [q_Mo_operand_85, zq_w32i (z := zq_fnK T n p - 1) (by omega) (by omega), if_pos (by omega)]
          simp only [this]
        rw [eo]
        refine ⟨fun y hy => ?_, fun e hw he => zq_FL_KF (zq_FL_bind (zq_FL_bind (r2 e hw he) (fun S => by rw [if_pos (by decide)])) hq0) hK1⟩
        obtain ⟨q41, q0, ns, ms, a, b, c, x, t1, t2, t3, t4, t5, t6, t7, t8⟩ := r1 y hy
        obtain ⟨s2, M2, g1, g2, g3, g4, g5⟩ := hs.2.2.2.1 M1 s a b c 41 (zq_tA T n q41) (zq_tB T n q41) x q0 ns ms (zq_fnK T n p) hM1q.1 hJ1 (by omega) t5 t6 t4 ⟨p, y, ⟨p1, p2⟩, rfl, c3, hy, t1⟩
        rw [g5 q_Mo_called_166] at t8
        have hBx : zq_MB T n w (zq_mxs (zq_mnw M1 a b c) 41 (zq_tA T n q41) (zq_tB T n q41) x) := hM1q.1
        have hB2 := zq_MB_AF hBx g4
        have hpl := zq_pl_1 g4.1
        have hP2 : zq_MP T n M2 q41 := zq_MP_pl t7 ⟨hpl.1, hpl.2.1, hpl.2.2.1, hpl.2.2.2.1⟩
        have hSt2 : zq_MSt M2 (base ++ u) := by
          have := hM1q.2.2.1
          refine ⟨by rw [hpl.2.2.2.2.2.2.1]; exact this.1, fun i x hx => ?_⟩
          rw [hpl.2.2.2.2.1, hpl.2.2.2.2.2.1]; exact this.2 i x hx
        have hK2 : zq_KF M M2 := zq_KF_tr hK1 g4.2.1
        obtain ⟨a1, a2⟩ := zq_r_next2 hB2 hP2
        obtain ⟨x2, i1, i2, i3⟩ := a1 y.1 t3
        have ecall : s_Mo_called M1 (zq_fnK T n p - 1) = some (1, zq_mxs M2 (zq_mk (zq_tK T n y.1)) (zq_tA T n y.1) (zq_tB T n y.1) x2) := by rw [t8, q_Mo_called_166]; exact i1
        have hJ3 : J (zq_mxs M2 (zq_mk (zq_tK T n y.1)) (zq_tA T n y.1) (zq_tB T n y.1) x2) s2 := hs.1 M2 s2 (zq_mk (zq_tK T n y.1)) (zq_tA T n y.1) (zq_tB T n y.1) x2 M2.m_signs M2.m_signPlaces M2.m_signCount M2.m_open M2.m_wants g3
        have hq3 : zq_MQ T n w (zq_mxs M2 (zq_mk (zq_tK T n y.1)) (zq_tA T n y.1) (zq_tB T n y.1) x2) y.1 (base ++ u) d 0 := ⟨hB2, i2, hSt2, by show M2.m_open = d; rw [hpl.2.2.2.2.2.2.2.1]; exact hM1q.2.2.2.1, by show M2.m_wants = 0; rw [hpl.2.2.2.2.2.2.2.2]; exact hM1q.2.2.2.2⟩
        obtain ⟨b1, b2⟩ := zq_r_operandEnd hs hq3 htop hu hJ3 (by omega) (by omega)
        have eR : zq_rO stp (y.2 ++ zq_negs u.length) s = zq_rO stp (zq_negs u.length) s2 := by
          rw [zq_rO_app, t1]; show zq_pbd (zq_pbd (stp s _) _) _ = _; rw [g1]; rfl
        have zq_gy := zq_tA_ge T n y.1
        have hAd : zq_tA T n p + 1 ≤ zq_tA T n y.1 := by
          -- the closing bracket stands behind the function's name
          have := zq_pFunc_adv hT ⟨p1, p2⟩ ⟨p3, by have := zq_fnK_303 c3; omega⟩ hy
          omega
        unfold zq_RESu
        rw [zq_q_opd hq (f1 + 1), e0, if_neg c2, if_pos (Or.inr c3), if_neg c3, eo, zq_mb2_eq ecall, if_neg (by decide), eR]
        cases hr : zq_rO stp (zq_negs u.length) s2 with
        | error e => exact Or.inr ⟨e, rfl, zq_FL_KF (zq_FL_bind (b2 e hr) hq0) hK2⟩
        | ok s3 =>
          obtain ⟨j0, M4, j1, j2, j3, j4⟩ := b1 s3 hr
          refine Or.inl ⟨f1 + 1, M4, s3, by rw [zq_mb2_eq j1], ⟨by omega, hAd⟩, j2, j3, zq_KF_tr hK2 j4, by omega, rfl⟩
end
section
variable {T : Int → Int} {n w : Int} {σ : Type} {J : MS → σ → Prop} {stp : σ → zq_Od → zq_PR σ} {ht : σ → Nat}
set_option maxRecDepth 100000 in
theorem zq_MLv_of {G : zq_PF} {d : Int} (h : zq_MFc T n w J stp ht G d) : zq_MLv T n w J stp ht 3 G d := by
  intro f M s base p hq htop hok hJ hh hlen hf
  obtain ⟨a1, a2⟩ := h f M s base [] p (by rw [List.append_nil]; exact hq) htop hok (by simp) hJ (by omega) (by rw [List.append_nil]; exact hlen) hf
  refine ⟨fun y hy => ?_, a2⟩
  rcases a1 y hy with ⟨f', M', s1, k1, k2, k3, k4, k5, k6, k7⟩ | ⟨e, k1, k2⟩
  · refine Or.inl ⟨f', M', [], s1, k1, k2, ?_, k4, k5, by simp, by simp, by simp; omega, ?_, fun z => by have := zq_rk_b z; omega⟩
    · rw [List.reverse_nil, List.append_nil]
      simp at k3; exact k3
    · rw [show ([] : List zq_SG).length = 0 from rfl, show zq_negs 0 = [] from rfl, List.append_nil] at k7
      rw [k7]; rfl
  · refine Or.inr ⟨e, ?_, k2⟩
    rw [show ([] : List zq_SG).length = 0 from rfl, show zq_negs 0 = [] from rfl, List.append_nil] at k1
    exact k1
set_option maxRecDepth 100000 in
theorem zq_sgl1 (g : Int) : zq_isSS g = true ↔ zq_bsg g ∧ zq_rk g = ((1 : Nat) : Int) := by
  constructor
  · intro h
    have hb : zq_bsg g := by unfold zq_isSS at h; simp at h; unfold zq_bsg; omega
    exact ⟨hb, (zq_rk_b hb).2.2.1.mpr h⟩
  · rintro ⟨h1, h2⟩; exact (zq_rk_b h1).2.2.1.mp h2
set_option maxRecDepth 100000 in
theorem zq_sgl2 (g : Int) : zq_isPS g = true ↔ zq_bsg g ∧ zq_rk g = ((2 : Nat) : Int) := by
  constructor
  · intro h
    have hb : zq_bsg g := by unfold zq_isPS at h; simp at h; unfold zq_bsg; omega
    exact ⟨hb, (zq_rk_b hb).2.2.2.mpr h⟩
  · rintro ⟨h1, h2⟩; exact (zq_rk_b h1).2.2.2.mp h2
set_option maxRecDepth 100000 in
/-- a first operand and its loop -/
theorem zq_E_mchain (hs : zq_SEM T n w J stp ht) (hTot : w = 0 → ∀ s o, ∃ s', stp s o = .ok s') {l : Nat} (hl : l = 1 ∨ l = 2) {sg : Int → Bool} (hsg : ∀ g, sg g = true ↔ zq_bsg g ∧ zq_rk g = l) {G : zq_PF} {d : Int} (hd : 0 ≤ d ∧ d ≤ 8) (hG : zq_MLv T n w J stp ht (l + 1) G d) : zq_MLv T n w J stp ht l (fun d p => zq_pbd (G d p) (fun y => zq_pLoop T n G sg d n.toNat y.2 y.1)) d := by
  intro f M s base p hq htop hok hJ hh hlen hf
  have htop1 : zq_topR base ((l + 1 : Nat) : Int) := fun x hx => by have := htop x hx; exact ⟨this.1, this.2.1, by omega⟩
  obtain ⟨a1, a2⟩ := hG f M s base p hq htop1 hok hJ (by omega) hlen hf
  show (∀ y, zq_pbd (G d p) (fun y => zq_pLoop T n G sg d n.toNat y.2 y.1) = .ok y → _) ∧ (∀ e, _ → zq_pbd (G d p) (fun y => zq_pLoop T n G sg d n.toNat y.2 y.1) = .error e → _)
  cases h1 : G d p with
  | error e =>
    refine ⟨fun y hy => (by cases hy), fun e' hw he => ?_⟩
    cases he
    exact a2 e hw h1
  | ok y1 =>
    rw [zq_pbd_ok]
    have pre : ∀ (m : Nat) (os : List zq_Od) (p : Int) (y : Int × List zq_Od), zq_pLoop T n G sg d m os p = .ok y → ∃ r, y.2 = os ++ r := by
      intro m
      induction m with
      | zero => intro os p y hy; rw [zq_pLoop] at hy; cases hy; exact ⟨[], by simp⟩
      | succ m ih =>
        intro os p y hy
        rw [zq_pLoop] at hy
        split at hy
        · cases h1 : zq_pAdv T n p with
          | error e => rw [h1] at hy; cases hy
          | ok q =>
            rw [h1, zq_pbd_ok] at hy
            cases h2 : G d q with
            | error e => rw [h2] at hy; cases hy
            | ok y2 =>
              rw [h2, zq_pbd_ok] at hy
              obtain ⟨r, hr⟩ := ih _ _ _ hy
              exact ⟨y2.2 ++ [(zq_tK T n p, ll 0, zq_tA T n p, 0, [], [])] ++ r, by rw [hr]; simp⟩
        · cases hy; exact ⟨[], by simp⟩
    rcases a1 y1 h1 with ⟨f', M', pend, s1, k1, k2, k3, k4, k5, k6, k7, k8, k9, k10⟩ | ⟨e, k1, k2⟩
    · have zq_gy := zq_tA_ge T n y1.1
      have gy0 := k3.2.1.1.1
      obtain ⟨b1, b2⟩ := zq_E_mloop hs hl hsg hd hG htop hok hh hlen n.toNat f' M' s1 pend y1.1 y1.2 (by omega) k2.1 k2.2 k1 k3 k4 k5 (fun x hx => by have := k6 x hx; exact ⟨this.1, by omega⟩) (by omega) k8 k9 (fun z => by have := k10 z; omega) hf
      exact ⟨b1, fun e hw he => b2 e hw (hTot hw) he⟩
    · refine ⟨fun y hy => ?_, fun e' hw he => ?_⟩
      · obtain ⟨r, hr⟩ := pre _ _ _ _ hy
        exact Or.inr ⟨e, by rw [hr, zq_rO_app, k1]; rfl, k2⟩
      · exfalso
        have tot : ∀ (t : List zq_Od) (s : σ), ∃ s', zq_rO stp t s = .ok s' := by
          intro t
          induction t with
          | nil => intro s; exact ⟨s, rfl⟩
          | cons o r ih =>
            intro s
            obtain ⟨s1, h1⟩ := hTot hw s o
            obtain ⟨s2, h2⟩ := ih s1
            exact ⟨s2, by show zq_pbd (stp s o) (zq_rO stp r) = _; rw [h1]; exact h2⟩
        obtain ⟨s9, h9⟩ := tot y1.2 s
        rw [h9] at k1; cases k1
set_option maxRecDepth 100000 in
theorem zq_E_pO (hs : zq_SEM T n w J stp ht) (hTot : w = 0 → ∀ s o, ∃ s', stp s o = .ok s') : ∀ (m : Nat) (d : Int), 0 ≤ d → d ≤ 8 → 9 ≤ d + m → zq_MLv T n w J stp ht 1 (zq_pO T n m).1 d ∧ zq_MFc T n w J stp ht (zq_pO T n m).2 d
  | 0, d => by omega
  | m + 1, d => by
    intro h0 h8 h9
    have hf : zq_MFc T n w J stp ht (zq_pFac T n (zq_pO T n m).1 (zq_pO T n m).2) d := zq_E_fac hs hTot ⟨h0, h8⟩ (fun h => (zq_E_pO hs hTot m (d + 1) (by omega) (by omega) (by omega)).1) (fun h => (zq_E_pO hs hTot m (d + 1) (by omega) (by omega) (by omega)).2)
    have hp : zq_MLv T n w J stp ht 2 (zq_pProd T n (zq_pO T n m).1 (zq_pO T n m).2) d := zq_E_mchain hs hTot (Or.inr rfl) zq_sgl2 ⟨h0, h8⟩ (zq_MLv_of hf)
    have hsu : zq_MLv T n w J stp ht 1 (zq_pSum T n (zq_pO T n m).1 (zq_pO T n m).2) d := zq_E_mchain hs hTot (Or.inl rfl) zq_sgl1 ⟨h0, h8⟩ hp
    exact ⟨hsu, hf⟩
set_option maxRecDepth 100000 in
/-- a whole question, over any meaning of its orders -/
theorem zq_r_question (hs : zq_SEM T n w J stp ht) (hTot : w = 0 → ∀ s o, ∃ s', stp s o = .ok s') {M : MS} {s0 : σ} (h : zq_MB T n w (MS.w_m_works M w)) (h0 : J (MS.w_m_wants (MS.w_m_to (MS.w_m_open (MS.w_m_signCount (MS.w_m_pile (MS.w_m_works M w) 0) 0) 0) 0) 1) s0) (hh : ht s0 = 0) :
    (∀ e, w = 0 → zq_pAll T n = .error e → zq_FL (MS.w_m_works M w) e (s_Mo_question M w)) ∧
    (∀ os, zq_pAll T n = .ok os → (∀ e, zq_rO stp os s0 = .error e → zq_FL (MS.w_m_works M w) e (s_Mo_question M w)) ∧ (∀ s1, zq_rO stp os s0 = .ok s1 → ∃ M', s_Mo_question M w = some (1, M') ∧ J M' s1 ∧ zq_MB T n w M' ∧ zq_KF (MS.w_m_works M w) M')) := by
  have hT := zq_MB_T h
  have hn := h.2.2.2.1
  have hn0 : 0 ≤ n := by have := h.1.1; rw [← h.2.2.1]; exact this
  have hw := h.2.2.2.2.2.2
  rw [s_Mo_question, if_pos hw]
  generalize hM1 : MS.w_m_wants (MS.w_m_to (MS.w_m_open (MS.w_m_signCount (MS.w_m_pile (MS.w_m_works M w) 0) 0) 0) 0) 1 = M1 at *
  have hB1 : zq_MB T n w M1 := by rw [← hM1]; exact h
  have hK1 : zq_KF (MS.w_m_works M w) M1 := by rw [← hM1]; rfl
  have hto : M1.m_to = 0 := by rw [← hM1]
  have e := zq_e_next hB1.1 (by rw [hto]; omega) (by rw [hto]; omega) hB1.2.2.2.2.1.1
  rw [hB1.2.1, hB1.2.2.1, hto] at e
  have q := zq_tok_x T n 0 M1.m_amount
  unfold zq_pAll
  by_cases c1 : zq_tK T n 0 = 300
  · rw [if_pos c1]
    refine ⟨fun e' hw he => ?_, fun os ho => (by cases ho)⟩
    cases he
    obtain ⟨k', t', x', e2⟩ := e.2 (by rw [q.1]; exact c1)
    rw [zq_mb2_eq e2, show fU = 999999 + 1 from rfl, zq_q35_0]
    exact ⟨_, rfl, rfl, rfl, hK1⟩
  · rw [if_neg c1]
    have e2 := e.1 (by rw [q.1]; exact c1)
    rw [q.1, q.2.1] at e2
    rw [zq_mb2_eq e2]
    generalize hM2 : zq_mxs M1 (zq_mk (zq_tK T n 0)) (zq_skp T n 0) (zq_tB T n 0) (zq_tok T n 0 M1.m_amount).2.2 = M2
    have hJ2 : J M2 s0 := by
      have := hs.1 M1 s0 (zq_mk (zq_tK T n 0)) (zq_skp T n 0) (zq_tB T n 0) (zq_tok T n 0 M1.m_amount).2.2 M1.m_signs M1.m_signPlaces M1.m_signCount M1.m_open M1.m_wants h0
      rw [← hM2]; exact this
    have hq2 : zq_MQ T n w M2 0 [] 0 1 := by
      rw [← hM2]
      refine ⟨hB1, ⟨⟨by omega, by omega, c1⟩, rfl, rfl, rfl, q.2.2⟩, ⟨by rw [← hM1]; rfl, fun i x hx => by simp at hx⟩, by rw [← hM1]; rfl, by rw [← hM1]; rfl⟩
    have hK2 : zq_KF (MS.w_m_works M w) M2 := by rw [← hM2]; exact hK1
    have ga := zq_tA_ge T n 0
    obtain ⟨a1, a2⟩ := (zq_E_pO hs hTot 10 0 (by omega) (by omega) (by omega)).1 fU M2 s0 [] 0 hq2 (fun x hx => by simp at hx) (fun x hx => by simp at hx) hJ2 (by omega) (by simp) (by have : (fU : Int) = 1000000 := rfl; omega)
    cases h1 : (zq_pO T n 10).1 0 0 with
    | error e =>
      refine ⟨fun e' hw he => ?_, fun os ho => (by cases ho)⟩
      cases he
      exact zq_FL_KF (a2 e hw h1) hK2
    | ok y =>
      rw [zq_pbd_ok]
      rcases a1 y h1 with ⟨f', M', pend, s1, k1, k2, k3, k4, k5, k6, k7, k8, k9, k10⟩ | ⟨e, k1, k2⟩
      · have hK3 := zq_KF_tr hK2 k5
        have zq_gy := zq_tA_le (T := T) k3.2.1.1.2.1
        have hfU : (fU : Int) = 1000000 := rfl
        obtain ⟨f5, rfl⟩ : ∃ f5, f' = f5 + 2 := ⟨f' - 2, by omega⟩
        have hokp : zq_okSt ([] ++ pend.reverse) := by
          intro x hx
          rw [List.nil_append] at hx
          have := (k6 x (List.mem_reverse.mp hx)).1; unfold zq_bsg at this; omega
        have hno : ([] ++ pend.reverse).any (fun x : zq_SG => x.1 == 40) = false := by
          rw [List.nil_append, List.any_eq_false]
          intro x hx
          have := (k6 x (List.mem_reverse.mp hx)).1; unfold zq_bsg at this
          simp; omega
        rw [k1]
        by_cases c2 : zq_tK T n y.1 = 301
        · rw [if_pos c2]
          refine ⟨fun e' hw he => (by cases he), fun os ho => ?_⟩
          cases ho
          have hop := zq_r_isOpen k3.2.2.1 (by simp; omega) hokp
          have eq : q_Mo_question_35 (f5 + 2) 1 M' = mb2 (s_Mo_doneTo M' 1) (fun r29 S29 => if w32 r29 = 0 then some (0, S29) else some (1, S29)) := by
            rw [zq_q_end k3 (f5 + 1) c2, q_Mo_question_75, if_neg (by decide), zq_mb2_eq hop, if_pos (by rw [zq_b01_0, hno]; simp), q_Mo_question_96, if_neg (by decide)]
          rw [eq, s_Mo_doneTo]
          obtain ⟨n1, n2⟩ := zq_nB_b (fun x hx => (k6 x hx).1)
          obtain ⟨d1, d2⟩ := zq_E_doneTo hs (r := 1) (by omega) (base := []) (fun x hx => by simp at hx) pend fU M' s1 k3.1 k4 k3.2.2.1 (by simp; omega) (fun x hx => by have := k6 x hx; exact ⟨Or.inl this.1, by omega⟩) (by omega) (zq_fU_gt (by omega))
          rw [k9] at d1 d2
          refine ⟨fun e he => zq_FL_KF (zq_FL_bind (d2 e he) (fun S => by rw [if_pos (by decide)])) hK3, fun s9 hs9 => ?_⟩
          obtain ⟨g0, M4, g1, g2, g3, g4, g5, g6, g7, g8⟩ := d1 s9 hs9
          exact ⟨M4, by rw [zq_mb2_eq g1, if_neg (by decide)], g2, g3, zq_KF_tr hK3 g8⟩
        · rw [if_neg c2]
          refine ⟨fun e' hw he => ?_, fun os ho => (by cases ho)⟩
          cases he
          refine zq_FL_KF (zq_r_bad k3 (fun z => ?_) (by simp; omega) hokp (fun _ => hno) (fun z => absurd z c2) f5) hK3
          have := k10 z; have := (zq_rk_b z).1; omega
      · refine ⟨fun e' hw he => ?_, fun os ho => ?_⟩
        · exfalso
          have tot : ∀ (t : List zq_Od) (s : σ), ∃ s', zq_rO stp t s = .ok s' := by
            intro t
            induction t with
            | nil => intro s; exact ⟨s, rfl⟩
            | cons o r ih =>
              intro s
              obtain ⟨s1, h1⟩ := hTot hw s o
              obtain ⟨s2, h2⟩ := ih s1
              exact ⟨s2, by show zq_pbd (stp s o) (zq_rO stp r) = _; rw [h1]; exact h2⟩
          obtain ⟨s9, h9⟩ := tot y.2 s0
          rw [h9] at k1; cases k1
        · by_cases c2 : zq_tK T n y.1 = 301
          · rw [if_pos c2] at ho; cases ho
            refine ⟨fun e' he => ?_, fun s1 hs1 => by rw [k1] at hs1; cases hs1⟩
            rw [k1] at he; cases he
            exact zq_FL_KF k2 hK2
          · rw [if_neg c2] at ho; cases ho
end
