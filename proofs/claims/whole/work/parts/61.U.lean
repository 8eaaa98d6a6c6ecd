/-! ===== pure words: bytes, scanning ===== -/
set_option maxRecDepth 100000 in
theorem zq_w32i {z : Int} (h1 : -2147483648 ≤ z) (h2 : z ≤ 2147483647) : w32 z = z := w32_id ⟨h1, h2⟩
set_option maxRecDepth 100000 in
theorem zq_gAnd255 (a : Int) : gAnd a 255 = a % 256 := by
  have e : ii a &&& ii 255 = ii (a % 256) := by
    apply Int32.toBitVec_inj.mp
    rw [Int32.toBitVec_and]
    apply BitVec.eq_of_toNat_eq
    rw [BitVec.toNat_and, ii_tn, ii_tn, ii_tn]
    have e2 : ((255 : Int) % 4294967296).toNat = 2 ^ 8 - 1 := by decide
    rw [e2, Nat.and_two_pow_sub_one_eq_mod]
    omega
  unfold gAnd
  rw [e, ii_toInt ⟨by omega, by omega⟩]
set_option maxRecDepth 100000 in
/-- the first place from i, below n, that P does not hold at -/
def zq_rf (P : Int → Bool) : Nat → Int → Int
  | 0, i => i
  | m + 1, i => if P i then zq_rf P m (i + 1) else i
set_option maxRecDepth 100000 in
def zq_rfn (P : Int → Bool) (n i : Int) : Int := zq_rf P (n - i).toNat i
set_option maxRecDepth 100000 in
theorem zq_rfn_step {P : Int → Bool} {n i : Int} (h : i < n) (hp : P i = true) : zq_rfn P n i = zq_rfn P n (i + 1) := by
  unfold zq_rfn
  obtain ⟨m, hm⟩ : ∃ m, (n - i).toNat = m + 1 := ⟨(n - i).toNat - 1, by omega⟩
  rw [hm, zq_rf, if_pos hp]
  congr 1; omega
set_option maxRecDepth 100000 in
theorem zq_rfn_stop {P : Int → Bool} {n i : Int} (h : i < n → P i = false) : zq_rfn P n i = i := by
  unfold zq_rfn
  cases hm : (n - i).toNat with
  | zero => rfl
  | succ m => rw [zq_rf, if_neg (by rw [h (by omega)]; decide)]
set_option maxRecDepth 100000 in
theorem zq_rf_le (P : Int → Bool) : ∀ (m : Nat) (i : Int), i ≤ zq_rf P m i ∧ zq_rf P m i ≤ i + m
  | 0, i => by rw [zq_rf]; omega
  | m + 1, i => by
    rw [zq_rf]; have := zq_rf_le P m (i + 1)
    split <;> omega
set_option maxRecDepth 100000 in
theorem zq_rfn_le (P : Int → Bool) (n i : Int) : i ≤ zq_rfn P n i ∧ zq_rfn P n i ≤ max i n := by
  have := zq_rf_le P (n - i).toNat i
  unfold zq_rfn; omega
set_option maxRecDepth 100000 in
theorem zq_rf_all (P : Int → Bool) : ∀ (m : Nat) (i j : Int), i ≤ j → j < zq_rf P m i → P j = true
  | 0, i, j => by rw [zq_rf]; omega
  | m + 1, i, j => by
    rw [zq_rf]
    split
    · intro h1 h2
      rcases Int.lt_or_eq_of_le h1 with h | h
      · exact zq_rf_all P m (i + 1) j (by omega) h2
      · subst h; assumption
    · omega
set_option maxRecDepth 100000 in
theorem zq_rfn_all {P : Int → Bool} {n i j : Int} (h1 : i ≤ j) (h2 : j < zq_rfn P n i) : P j = true := zq_rf_all P _ i j h1 h2
set_option maxRecDepth 100000 in
theorem zq_rf_end (P : Int → Bool) : ∀ (m : Nat) (i : Int), zq_rf P m i < i + m → P (zq_rf P m i) = false
  | 0, i => by rw [zq_rf]; omega
  | m + 1, i => by
    rw [zq_rf]
    split
    · intro h; exact zq_rf_end P m (i + 1) (by omega)
    · rename_i hh; intro _; simpa using hh
set_option maxRecDepth 100000 in
theorem zq_rfn_end {P : Int → Bool} {n i : Int} (h : zq_rfn P n i < n) : P (zq_rfn P n i) = false := by
  unfold zq_rfn at *
  by_cases c : i ≤ n
  · exact zq_rf_end P _ i (by omega)
  · have := zq_rf_le P (n - i).toNat i; omega
set_option maxRecDepth 100000 in
def zq_dgB (b : Int) : Bool := decide (48 ≤ b ∧ b ≤ 57)
set_option maxRecDepth 100000 in
def zq_nmB (b : Int) : Bool := decide ((97 ≤ b ∧ b ≤ 122) ∨ (65 ≤ b ∧ b ≤ 90) ∨ (48 ≤ b ∧ b ≤ 57) ∨ b = 95)
set_option maxRecDepth 100000 in
def zq_qtB (b : Int) : Bool := decide (32 ≤ b ∧ b ≤ 126 ∧ b ≠ 34)
/-! ===== the program's tape ===== -/
set_option maxRecDepth 100000 in
def zq_bt (S : WS) (i : Int) : Int := if 0 ≤ i ∧ i < S.tp_size then S.tp_bytes i % 256 else -1
set_option maxRecDepth 100000 in
theorem zq_bt_R (S : WS) (i : Int) : -1 ≤ zq_bt S i ∧ zq_bt S i ≤ 255 := by unfold zq_bt; split <;> omega
set_option maxRecDepth 100000 in
def zq_tpI (c : CW) (S : WS) : Prop := 0 ≤ S.tp_size ∧ S.tp_size ≤ c.tc ∧ c.tc ≤ 65536
set_option maxRecDepth 100000 in
theorem zq_e_byteAt {c : CW} {S : WS} (h : zq_tpI c S) {i : Int} (hi : iR i) : s_Tp_byteAt c S i = some (zq_bt S i, S) := by
  obtain ⟨h1, h2, h3⟩ := h
  obtain ⟨h4, h5⟩ := hi
  unfold s_Tp_byteAt zq_bt
  rw [zq_w32i h4 h5, zq_w32i (by omega) (by omega), zq_gAnd255]
  by_cases c1 : i < 0
  · rw [if_pos c1, if_neg (by omega)]
  · rw [if_neg c1]
    by_cases c2 : S.tp_size ≤ i
    · rw [if_pos c2, if_neg (by omega)]
    · rw [if_neg c2, if_pos ⟨by omega, by omega⟩, if_pos ⟨by omega, by omega⟩]
set_option maxRecDepth 100000 in
theorem zq_e_size (c : CW) (S : WS) : s_Tp_size c S = some (S.tp_size, S) := rfl
set_option maxRecDepth 100000 in
theorem zq_e_isDigit {b : Int} (h : iR b) : s_Lx_isDigit b = some (if zq_dgB b then 1 else 0) := by
  unfold s_Lx_isDigit zq_dgB
  rw [w32_id h]
  by_cases c1 : b < 48
  · rw [if_pos c1]; simp; omega
  · rw [if_neg c1]
    by_cases c2 : 57 < b
    · rw [if_pos c2]; simp; omega
    · rw [if_neg c2]; simp; omega
set_option maxRecDepth 100000 in
theorem zq_e_isNameByte {b : Int} (h : iR b) : s_Lx_isNameByte b = some (if zq_nmB b then 1 else 0) := by
  unfold s_Lx_isNameByte q_Lx_isNameByte_12 q_Lx_isNameByte_24 q_Lx_isNameByte_36 q_Lx_isNameByte_42 zq_nmB
  rw [w32_id h]
  simp only [decide_eq_true_eq]
  (repeat' split) <;> first | rfl | omega
set_option maxRecDepth 100000 in
theorem zq_e_isQuotable {b : Int} (h : iR b) : s_Lx_isQuotable b = some (if zq_qtB b then 1 else 0) := by
  unfold s_Lx_isQuotable zq_qtB
  rw [w32_id h]
  simp only [decide_eq_true_eq]
  (repeat' split) <;> first | rfl | omega
set_option maxRecDepth 100000 in
theorem zq_mb2_eq {α β γ : Type} {x : Option (α × β)} {f : α → β → Option γ} {a : α} {b : β} (h : x = some (a, b)) : mb2 x f = f a b := by rw [h]; rfl
set_option maxRecDepth 100000 in
theorem zq_mb1_eq {α γ : Type} {x : Option α} {f : α → Option γ} {a : α} (h : x = some a) : mb1 x f = f a := by rw [h]; rfl
set_option maxRecDepth 100000 in
theorem zq_mb3_eq {α β γ δ : Type} {x : Option (α × β × γ)} {f : α → β → γ → Option δ} {a : α} {b : β} {d : γ} (h : x = some (a, b, d)) : mb3 x f = f a b d := by rw [h]; rfl
set_option maxRecDepth 100000 in
theorem zq_w32_b (b : Bool) : w32 (if b then 1 else 0) = if b then 1 else 0 := by cases b <;> decide
set_option maxRecDepth 100000 in
theorem zq_b_eq0 (b : Bool) : ((if b then (1 : Int) else 0) = 0) ↔ b = false := by cases b <;> decide
set_option maxRecDepth 100000 in
/-- the lexer's four fields -/
def zq_lxs (S : WS) (k a b : Int) (x : Int64) : WS := WS.w_lx_number (WS.w_lx_behind (WS.w_lx_at (WS.w_lx_kind S k) a) b) x
set_option maxRecDepth 100000 in
theorem zq_tpI_lxs {c : CW} {S : WS} (h : zq_tpI c S) (k a b : Int) (x : Int64) : zq_tpI c (zq_lxs S k a b x) := h
set_option maxRecDepth 100000 in
theorem zq_bt_lxs (S : WS) (k a b : Int) (x : Int64) : zq_bt (zq_lxs S k a b x) = zq_bt S := rfl
set_option maxRecDepth 100000 in
theorem zq_lxs_id (S : WS) : zq_lxs S S.lx_kind S.lx_at S.lx_behind S.lx_number = S := rfl

/-! ===== tokens, over the bytes T of a tape of n bytes (-1: no byte) ===== -/
set_option maxRecDepth 100000 in
def zq_skp (T : Int → Int) (n p : Int) : Int := zq_rfn (fun j => T j == 32) n p
set_option maxRecDepth 100000 in
def zq_nmE (T : Int → Int) (n p : Int) : Int := zq_rfn (fun j => zq_nmB (T j)) n p
set_option maxRecDepth 100000 in
def zq_qtE (T : Int → Int) (n p : Int) : Int := zq_rfn (fun j => zq_qtB (T j)) n p
set_option maxRecDepth 100000 in
def zq_nr (T : Int → Int) : Nat → Int → Int64 → Int × Int × Int64
  | 0, b, x => (302, b, x)
  | m + 1, b, x => if zq_dgB (T b) then (if x.toInt ≤ ((ll 9223372036854775807 - ll (T b - 48)) / ll 10).toInt then zq_nr T m (b + 1) (x * ll 10 + ll (T b - 48)) else (300, b, x)) else (302, b, x)
set_option maxRecDepth 100000 in
def zq_nrn (T : Int → Int) (n b : Int) (x : Int64) : Int × Int × Int64 := zq_nr T (n - b).toNat b x
set_option maxRecDepth 100000 in
theorem zq_nrn_end {T : Int → Int} {n b : Int} {x : Int64} (h : b < n → zq_dgB (T b) = false) : zq_nrn T n b x = (302, b, x) := by
  unfold zq_nrn
  cases hm : (n - b).toNat with
  | zero => rfl
  | succ m => rw [zq_nr, if_neg (by rw [h (by omega)]; decide)]
set_option maxRecDepth 100000 in
theorem zq_nrn_bad {T : Int → Int} {n b : Int} {x : Int64} (h : b < n) (hd : zq_dgB (T b) = true) (hx : ¬ x.toInt ≤ ((ll 9223372036854775807 - ll (T b - 48)) / ll 10).toInt) : zq_nrn T n b x = (300, b, x) := by
  unfold zq_nrn
  obtain ⟨m, hm⟩ : ∃ m, (n - b).toNat = m + 1 := ⟨(n - b).toNat - 1, by omega⟩
  rw [hm, zq_nr, if_pos hd, if_neg hx]
set_option maxRecDepth 100000 in
theorem zq_nrn_go {T : Int → Int} {n b : Int} {x : Int64} (h : b < n) (hd : zq_dgB (T b) = true) (hx : x.toInt ≤ ((ll 9223372036854775807 - ll (T b - 48)) / ll 10).toInt) : zq_nrn T n b x = zq_nrn T n (b + 1) (x * ll 10 + ll (T b - 48)) := by
  unfold zq_nrn
  obtain ⟨m, hm⟩ : ∃ m, (n - b).toNat = m + 1 := ⟨(n - b).toNat - 1, by omega⟩
  rw [hm, zq_nr, if_pos hd, if_pos hx]
  congr 1; omega
set_option maxRecDepth 100000 in
theorem zq_nr_ge (T : Int → Int) : ∀ (m : Nat) (b : Int) (x : Int64), b ≤ (zq_nr T m b x).2.1 ∧ (zq_nr T m b x).2.1 ≤ b + m ∧ ((zq_nr T m b x).1 = 302 ∨ (zq_nr T m b x).1 = 300)
  | 0, b, x => by rw [zq_nr]; simp
  | m + 1, b, x => by
    rw [zq_nr]
    have := zq_nr_ge T m (b + 1) (x * ll 10 + ll (T b - 48))
    split
    · split
      · omega
      · simp; omega
    · simp; omega
set_option maxRecDepth 100000 in
def zq_sgK (f s : Int) : Int := if f = 33 then (if s = 61 then 305 else if s = 94 then 307 else 300) else if f = 94 then (if s = 61 then 306 else 300) else if f = 37 ∨ f = 40 ∨ f = 41 ∨ f = 42 ∨ f = 43 ∨ f = 44 ∨ f = 45 ∨ f = 47 ∨ f = 61 ∨ f = 123 ∨ f = 125 then f else 300
set_option maxRecDepth 100000 in
/-- kind, end and number of the token that begins at a -/
def zq_tokA (T : Int → Int) (n a : Int) (x : Int64) : Int × Int × Int64 :=
  if T a = -1 then (301, a, x) else if zq_dgB (T a) then zq_nrn T n a (ll 0) else if zq_nmB (T a) then (303, zq_nmE T n a, x)
  else if T a = 34 then (if T (zq_qtE T n (a + 1)) = 34 then 304 else 300, zq_qtE T n (a + 1) + 1, x)
  else (zq_sgK (T a) (T (a + 1)), a + (if zq_sgK (T a) (T (a + 1)) = 305 ∨ zq_sgK (T a) (T (a + 1)) = 306 ∨ zq_sgK (T a) (T (a + 1)) = 307 then 2 else 1), x)
set_option maxRecDepth 100000 in
def zq_tok (T : Int → Int) (n p : Int) (x : Int64) : Int × Int × Int64 := zq_tokA T n (zq_skp T n p) x
set_option maxRecDepth 100000 in
def zq_tpT (T : Int → Int) (n : Int) : Prop := (∀ i, -1 ≤ T i ∧ T i ≤ 255) ∧ (∀ i, T i = -1 ↔ ¬ (0 ≤ i ∧ i < n))
set_option maxRecDepth 100000 in
theorem zq_bt_T {c : CW} {S : WS} (h : zq_tpI c S) : zq_tpT (zq_bt S) S.tp_size := ⟨zq_bt_R S, fun i => by unfold zq_bt; split <;> omega⟩
set_option maxRecDepth 100000 in
theorem zq_dgB_iff (b : Int) : zq_dgB b = true ↔ 48 ≤ b ∧ b ≤ 57 := by unfold zq_dgB; simp
set_option maxRecDepth 100000 in
theorem zq_nmB_iff (b : Int) : zq_nmB b = true ↔ (97 ≤ b ∧ b ≤ 122) ∨ (65 ≤ b ∧ b ≤ 90) ∨ (48 ≤ b ∧ b ≤ 57) ∨ b = 95 := by unfold zq_nmB; simp
set_option maxRecDepth 100000 in
theorem zq_qtB_iff (b : Int) : zq_qtB b = true ↔ 32 ≤ b ∧ b ≤ 126 ∧ b ≠ 34 := by unfold zq_qtB; simp
/-! ===== the program's lexer ===== -/
set_option maxRecDepth 100000 in
theorem zq_E_readName {c : CW} (S : WS) (h : zq_tpI c S) (k0 a : Int) (x : Int64) : ∀ (k : Nat) (b : Int), 0 ≤ b → b ≤ 1000009 → (S.tp_size - b).toNat < k → q_Lx_readName_7 c k (zq_lxs S k0 a b x) = some ((), zq_lxs S k0 a (zq_nmE (zq_bt S) S.tp_size b) x)
  | 0, b => by omega
  | k + 1, b => by
    intro hb0 hb1 hk
    have h1 := h.1; have h2 := h.2.1; have h3 := h.2.2
    rw [q_Lx_readName_7]
    refine (zq_mb2_eq (zq_e_size c _)).trans ?_
    show (if w32 S.tp_size ≤ w32 b then _ else _) = _
    rw [zq_w32i (by omega) (by omega), zq_w32i (by omega) (by omega)]
    by_cases c1 : S.tp_size ≤ b
    · rw [if_pos c1, zq_nmE, zq_rfn_stop (by omega)]
    · rw [if_neg c1]
      refine (zq_mb2_eq (zq_e_byteAt (zq_tpI_lxs h _ _ _ _) (i := b) ⟨by omega, by omega⟩)).trans ?_
      refine (zq_mb1_eq (zq_e_isNameByte (by have := zq_bt_R S b; rw [zq_bt_lxs]; constructor <;> omega))).trans ?_
      rw [zq_w32_b, zq_bt_lxs]
      simp only [zq_b_eq0]
      by_cases c2 : zq_nmB (zq_bt S b) = false
      · rw [if_pos c2, zq_nmE, zq_rfn_stop (P := fun j => zq_nmB (zq_bt S j)) (fun _ => c2)]
      · rw [if_neg c2, zq_nmE, zq_rfn_step (by omega) (by simpa using c2)]
        exact zq_E_readName S h k0 a x k (b + 1) (by omega) (by omega) (by omega)
set_option maxRecDepth 100000 in
theorem zq_E_readQuoted {c : CW} (S : WS) (h : zq_tpI c S) (k0 a : Int) (x : Int64) : ∀ (k : Nat) (b : Int), 0 ≤ b → b ≤ 1000009 → (S.tp_size - b).toNat < k → q_Lx_readQuoted_10 c k (zq_lxs S k0 a b x) = some ((), zq_lxs S (if zq_bt S (zq_qtE (zq_bt S) S.tp_size b) = 34 then 304 else 300) a (zq_qtE (zq_bt S) S.tp_size b + 1) x)
  | 0, b => by omega
  | k + 1, b => by
    intro hb0 hb1 hk
    have h1 := h.1; have h2 := h.2.1; have h3 := h.2.2
    have fin : q_Lx_readQuoted_54 c (zq_lxs S k0 a b x) = some ((), zq_lxs S (if zq_bt S b = 34 then 304 else 300) a (b + 1) x) := by
      unfold q_Lx_readQuoted_54
      refine (zq_mb2_eq (zq_e_byteAt (zq_tpI_lxs h _ _ _ _) (i := b) ⟨by omega, by omega⟩)).trans ?_
      rw [zq_bt_lxs, zq_w32i (by have := zq_bt_R S b; omega) (by have := zq_bt_R S b; omega)]
      by_cases c3 : zq_bt S b = 34
      · rw [if_pos c3, if_pos c3]; rfl
      · rw [if_neg c3, if_neg c3]; rfl
    rw [q_Lx_readQuoted_10]
    refine (zq_mb2_eq (zq_e_size c _)).trans ?_
    show (if w32 S.tp_size ≤ w32 b then _ else _) = _
    rw [zq_w32i (by omega) (by omega), zq_w32i (by omega) (by omega)]
    by_cases c1 : S.tp_size ≤ b
    · rw [if_pos c1, zq_qtE, zq_rfn_stop (by omega)]; exact fin
    · rw [if_neg c1]
      refine (zq_mb2_eq (zq_e_byteAt (zq_tpI_lxs h _ _ _ _) (i := b) ⟨by omega, by omega⟩)).trans ?_
      refine (zq_mb1_eq (zq_e_isQuotable (by have := zq_bt_R S b; rw [zq_bt_lxs]; constructor <;> omega))).trans ?_
      rw [zq_w32_b, zq_bt_lxs]
      simp only [zq_b_eq0]
      by_cases c2 : zq_qtB (zq_bt S b) = false
      · rw [if_pos c2, zq_qtE, zq_rfn_stop (P := fun j => zq_qtB (zq_bt S j)) (fun _ => c2)]; exact fin
      · rw [if_neg c2, zq_qtE, zq_rfn_step (by omega) (by simpa using c2)]
        exact zq_E_readQuoted S h k0 a x k (b + 1) (by omega) (by omega) (by omega)
set_option maxRecDepth 100000 in
theorem zq_E_readNumber {c : CW} (S : WS) (h : zq_tpI c S) (a : Int) : ∀ (k : Nat) (b : Int) (x : Int64), 0 ≤ b → b ≤ 1000009 → (S.tp_size - b).toNat < k → q_Lx_readNumber_12 c k (zq_lxs S 302 a b x) = some ((), zq_lxs S (zq_nrn (zq_bt S) S.tp_size b x).1 a (zq_nrn (zq_bt S) S.tp_size b x).2.1 (zq_nrn (zq_bt S) S.tp_size b x).2.2)
  | 0, b, x => by omega
  | k + 1, b, x => by
    intro hb0 hb1 hk
    have h1 := h.1; have h2 := h.2.1; have h3 := h.2.2
    rw [q_Lx_readNumber_12]
    refine (zq_mb2_eq (zq_e_size c _)).trans ?_
    show (if w32 S.tp_size ≤ w32 b then _ else _) = _
    rw [zq_w32i (by omega) (by omega), zq_w32i (by omega) (by omega)]
    by_cases c1 : S.tp_size ≤ b
    · rw [if_pos c1, zq_nrn_end (by omega)]
    · rw [if_neg c1]
      have hb := zq_bt_R S b
      refine (zq_mb2_eq (zq_e_byteAt (zq_tpI_lxs h _ _ _ _) (i := b) ⟨by omega, by omega⟩)).trans ?_
      refine (zq_mb1_eq (zq_e_isDigit (by rw [zq_bt_lxs]; constructor <;> omega))).trans ?_
      rw [zq_w32_b, zq_bt_lxs]
      simp only [zq_b_eq0]
      by_cases c2 : zq_dgB (zq_bt S b) = false
      · rw [if_pos c2, zq_nrn_end (fun _ => c2)]
      · rw [if_neg c2]
        refine (zq_mb2_eq (zq_e_byteAt (zq_tpI_lxs h _ _ _ _) (i := b) ⟨by omega, by omega⟩)).trans ?_
        rw [zq_bt_lxs, zq_w32i (by omega) (by omega)]
        show (if x.toInt ≤ _ then _ else _) = _
        by_cases c3 : x.toInt ≤ ((ll 9223372036854775807 - ll (zq_bt S b - 48)) / ll 10).toInt
        · rw [if_pos c3, zq_nrn_go (by omega) (by simpa using c2) c3]
          exact zq_E_readNumber S h a k (b + 1) _ (by omega) (by omega) (by omega)
        · rw [if_neg c3, zq_nrn_bad (by omega) (by simpa using c2) c3]; rfl
set_option maxRecDepth 100000 in
theorem zq_e_signKind {f s : Int} (hf : -1 ≤ f ∧ f ≤ 255) (hs : -1 ≤ s ∧ s ≤ 255) : s_Lx_signKind f s = some (zq_sgK f s) := by
  unfold s_Lx_signKind zq_sgK
  rw [zq_w32i (z := f) (by omega) (by omega), zq_w32i (z := s) (by omega) (by omega)]
  by_cases h1 : f = 33
  · subst h1; simp only [if_true]; (repeat' split) <;> rfl
  by_cases h2 : f = 94
  · subst h2; simp; (repeat' split) <;> rfl
  by_cases h3 : f = 37 ∨ f = 40 ∨ f = 41 ∨ f = 42 ∨ f = 43 ∨ f = 44 ∨ f = 45 ∨ f = 47 ∨ f = 61 ∨ f = 123 ∨ f = 125
  · rw [if_neg h1, if_neg h1, if_neg h2, if_pos h3]
    rcases h3 with r | r | r | r | r | r | r | r | r | r | r <;> subst r <;> rfl
  · rw [if_neg h1, if_neg h1, if_neg h2, if_neg h3]
    simp only [not_or] at h3
    simp [h3, h2]
set_option maxRecDepth 100000 in
theorem zq_sgK_R (f s : Int) (hf : -1 ≤ f ∧ f ≤ 255) : -1 ≤ zq_sgK f s ∧ zq_sgK f s ≤ 400 := by
  unfold zq_sgK; (repeat' split) <;> omega
set_option maxRecDepth 100000 in
theorem zq_e_readSign {c : CW} {S : WS} {f s : Int} (hf : -1 ≤ f ∧ f ≤ 255) (hs : -1 ≤ s ∧ s ≤ 255) : s_Lx_readSign c S f s = some ((), zq_lxs S (zq_sgK f s) S.lx_at (S.lx_behind + (if zq_sgK f s = 305 ∨ zq_sgK f s = 306 ∨ zq_sgK f s = 307 then 2 else 1)) S.lx_number) := by
  unfold s_Lx_readSign
  refine (zq_mb1_eq (zq_e_signKind hf hs)).trans ?_
  have := zq_sgK_R f s hf
  generalize zq_sgK f s = z at *
  rw [zq_w32i (by omega) (by omega)]
  by_cases c1 : z = 305 ∨ z = 306 ∨ z = 307
  · rw [if_pos c1]
    have e : q_Lx_readSign_39 c (WS.w_lx_kind S z) = some ((), zq_lxs S z S.lx_at (S.lx_behind + 2) S.lx_number) := rfl
    rcases c1 with r | r | r <;> subst r
    · exact e
    · exact e
    · exact e
  · rw [if_neg c1, if_neg (by omega), if_neg (by omega), if_neg (by omega)]; rfl
set_option maxRecDepth 100000 in
def zq_adv (S : WS) : WS := zq_lxs S (zq_tok (zq_bt S) S.tp_size S.lx_behind S.lx_number).1 (zq_skp (zq_bt S) S.tp_size S.lx_behind) (zq_tok (zq_bt S) S.tp_size S.lx_behind S.lx_number).2.1 (zq_tok (zq_bt S) S.tp_size S.lx_behind S.lx_number).2.2
set_option maxRecDepth 100000 in
theorem zq_fU_gt {m : Nat} (h : m < 1000000) : m < fU := h
set_option maxRecDepth 100000 in
theorem zq_tokA_fin {T : Int → Int} {n a : Int} {x : Int64} (h : T a = -1) : zq_tokA T n a x = (301, a, x) := by unfold zq_tokA; rw [if_pos h]
set_option maxRecDepth 100000 in
theorem zq_tokA_dig {T : Int → Int} {n a : Int} {x : Int64} (h : ¬ T a = -1) (h2 : zq_dgB (T a) = true) : zq_tokA T n a x = zq_nrn T n a (ll 0) := by unfold zq_tokA; rw [if_neg h, if_pos h2]
set_option maxRecDepth 100000 in
theorem zq_tokA_nam {T : Int → Int} {n a : Int} {x : Int64} (h : ¬ T a = -1) (h2 : zq_dgB (T a) = false) (h3 : zq_nmB (T a) = true) : zq_tokA T n a x = (303, zq_nmE T n a, x) := by unfold zq_tokA; rw [if_neg h, h2, if_neg (by decide), if_pos h3]
set_option maxRecDepth 100000 in
theorem zq_tokA_quo {T : Int → Int} {n a : Int} {x : Int64} (h4 : T a = 34) : zq_tokA T n a x = (if T (zq_qtE T n (a + 1)) = 34 then 304 else 300, zq_qtE T n (a + 1) + 1, x) := by unfold zq_tokA; rw [if_neg (by omega), if_neg (by rw [h4]; decide), if_neg (by rw [h4]; decide), if_pos h4]
set_option maxRecDepth 100000 in
theorem zq_tokA_sig {T : Int → Int} {n a : Int} {x : Int64} (h : ¬ T a = -1) (h2 : zq_dgB (T a) = false) (h3 : zq_nmB (T a) = false) (h4 : ¬ T a = 34) : zq_tokA T n a x = (zq_sgK (T a) (T (a + 1)), a + (if zq_sgK (T a) (T (a + 1)) = 305 ∨ zq_sgK (T a) (T (a + 1)) = 306 ∨ zq_sgK (T a) (T (a + 1)) = 307 then 2 else 1), x) := by unfold zq_tokA; rw [if_neg h, h2, if_neg (by decide), h3, if_neg (by decide), if_neg h4]
set_option maxRecDepth 100000 in
theorem zq_E_adv2 {c : CW} (S : WS) (h : zq_tpI c S) (k0 a b : Int) (x : Int64) (ha : 0 ≤ a) (ha2 : a ≤ 1000000) : q_Lx_advance_51 c (zq_lxs S k0 a b x) = some ((), zq_lxs S (zq_tokA (zq_bt S) S.tp_size a x).1 a (zq_tokA (zq_bt S) S.tp_size a x).2.1 (zq_tokA (zq_bt S) S.tp_size a x).2.2) := by
  have h1 := h.1; have h2 := h.2.1; have h3 := h.2.2
  have hb := zq_bt_R S a
  unfold q_Lx_advance_51
  refine (zq_mb2_eq (zq_e_byteAt (show zq_tpI c (zq_lxs S k0 a a x) from h) (i := a) ⟨by omega, by omega⟩)).trans ?_
  rw [zq_bt_lxs, zq_w32i (by omega) (by omega)]
  by_cases c1 : zq_bt S a = -1
  · rw [if_pos c1, zq_tokA_fin c1]; rfl
  · rw [if_neg c1]
    refine (zq_mb1_eq (zq_e_isDigit ⟨by omega, by omega⟩)).trans ?_
    rw [zq_w32_b]; simp only [zq_b_eq0]
    by_cases c2 : zq_dgB (zq_bt S a) = false
    · rw [if_pos c2]
      refine (zq_mb1_eq (zq_e_isNameByte ⟨by omega, by omega⟩)).trans ?_
      rw [zq_w32_b]; simp only [zq_b_eq0]
      by_cases c3 : zq_nmB (zq_bt S a) = false
      · rw [if_pos c3]
        by_cases c4 : zq_bt S a = 34
        · rw [if_pos c4, zq_tokA_quo c4]
          exact (zq_mb2_eq (zq_E_readQuoted S h k0 a x fU (a + 1) (by omega) (by omega) (zq_fU_gt (by omega)))).trans rfl
        · rw [if_neg c4, zq_tokA_sig c1 c2 c3 c4]
          refine (zq_mb2_eq (zq_e_byteAt (show zq_tpI c (zq_lxs S k0 a a x) from h) (i := a + 1) ⟨by omega, by omega⟩)).trans ?_
          rw [zq_bt_lxs]
          exact (zq_mb2_eq (zq_e_readSign hb (zq_bt_R S (a + 1)))).trans rfl
      · rw [if_neg c3, zq_tokA_nam c1 c2 (by simpa using c3)]
        exact (zq_mb2_eq (zq_E_readName S h 303 a x fU a (by omega) (by omega) (zq_fU_gt (by omega)))).trans rfl
    · rw [if_neg c2, zq_tokA_dig c1 (by simpa using c2)]
      exact (zq_mb2_eq (zq_E_readNumber S h a fU a (ll 0) (by omega) (by omega) (zq_fU_gt (by omega)))).trans rfl
set_option maxRecDepth 100000 in
theorem zq_E_adv1 {c : CW} (S : WS) (h : zq_tpI c S) (k0 b : Int) (x : Int64) : ∀ (k : Nat) (a : Int), 0 ≤ a → a ≤ 1000000 → (S.tp_size - a).toNat < k → q_Lx_advance_8 c k (zq_lxs S k0 a b x) = some ((), zq_lxs S (zq_tok (zq_bt S) S.tp_size a x).1 (zq_skp (zq_bt S) S.tp_size a) (zq_tok (zq_bt S) S.tp_size a x).2.1 (zq_tok (zq_bt S) S.tp_size a x).2.2)
  | 0, a => by omega
  | k + 1, a => by
    intro ha0 ha1 hk
    have h1 := h.1; have h2 := h.2.1; have h3 := h.2.2
    have hb := zq_bt_R S a
    rw [q_Lx_advance_8]
    refine (zq_mb2_eq (zq_e_size c _)).trans ?_
    show (if w32 S.tp_size ≤ w32 a then _ else _) = _
    rw [zq_w32i (by omega) (by omega), zq_w32i (by omega) (by omega)]
    by_cases c1 : S.tp_size ≤ a
    · rw [if_pos c1, zq_tok, zq_skp, zq_rfn_stop (by omega)]; exact zq_E_adv2 S h k0 a b x ha0 ha1
    · rw [if_neg c1]
      refine (zq_mb2_eq (zq_e_byteAt (zq_tpI_lxs h _ _ _ _) (i := a) ⟨by omega, by omega⟩)).trans ?_
      rw [zq_bt_lxs, zq_w32i (by omega) (by omega)]
      by_cases c2 : zq_bt S a = 32
      · rw [if_pos c2, zq_tok, zq_skp, zq_rfn_step (P := fun j => zq_bt S j == 32) (by omega) (by simpa using c2)]
        exact zq_E_adv1 S h k0 b x k (a + 1) (by omega) (by omega) (by omega)
      · rw [if_neg c2, zq_tok, zq_skp, zq_rfn_stop (P := fun j => zq_bt S j == 32) (fun _ => by simpa using c2)]
        exact zq_E_adv2 S h k0 a b x ha0 ha1
set_option maxRecDepth 100000 in
theorem zq_e_advance {c : CW} {S : WS} (h : zq_tpI c S) (h0 : 0 ≤ S.lx_behind) (h1 : S.lx_behind ≤ 1000000) : s_Lx_advance c S = some ((), zq_adv S) := by
  have h2 := h.2.1; have h3 := h.2.2
  unfold s_Lx_advance zq_adv
  exact zq_E_adv1 S h S.lx_kind S.lx_behind S.lx_number fU S.lx_behind h0 h1 (zq_fU_gt (by omega))
/-! ===== the reference's tape and tokens ===== -/
set_option maxRecDepth 100000 in
def zq_mby (M : MS) (i : Int) : Int := if 0 ≤ i ∧ i < M.m_length then M.m_tape i % 256 else -1
set_option maxRecDepth 100000 in
theorem zq_mby_R (M : MS) (i : Int) : -1 ≤ zq_mby M i ∧ zq_mby M i ≤ 255 := by unfold zq_mby; split <;> omega
set_option maxRecDepth 100000 in
def zq_moI (M : MS) : Prop := 0 ≤ M.m_length ∧ M.m_length ≤ 65536 ∧ ∀ i, -128 ≤ M.m_tape i ∧ M.m_tape i ≤ 127
set_option maxRecDepth 100000 in
/-- the reference's byte: 0 behind the end -/
def zq_mz (b : Int) : Int := if b = -1 then 0 else b
set_option maxRecDepth 100000 in
theorem zq_mz_R (M : MS) (i : Int) : 0 ≤ zq_mz (zq_mby M i) ∧ zq_mz (zq_mby M i) ≤ 255 := by have := zq_mby_R M i; unfold zq_mz; split <;> omega
set_option maxRecDepth 100000 in
theorem zq_e_mat {M : MS} (h : zq_moI M) {i : Int} (hi : iR i) : s_Mo_at M i = some (zq_mz (zq_mby M i), M) := by
  obtain ⟨h1, h2, -⟩ := h
  obtain ⟨h4, h5⟩ := hi
  unfold s_Mo_at
  rw [zq_w32i h4 h5, zq_w32i (by omega) (by omega), zq_gAnd255]
  by_cases c1 : i < 0
  · rw [if_pos c1, show zq_mby M i = -1 from if_neg (by omega)]; rfl
  · rw [if_neg c1]
    by_cases c2 : M.m_length ≤ i
    · rw [if_pos c2, show zq_mby M i = -1 from if_neg (by omega)]; rfl
    · rw [if_neg c2, if_pos ⟨by omega, by omega⟩, show zq_mby M i = M.m_tape i % 256 from if_pos ⟨by omega, by omega⟩, zq_mz, if_neg (by omega)]
set_option maxRecDepth 100000 in
theorem zq_e_mIsDigit {b : Int} (h : iR b) : s_Mo_isDigit b = some (if zq_dgB b then 1 else 0) := zq_e_isDigit h
set_option maxRecDepth 100000 in
def zq_ltB (b : Int) : Bool := decide ((97 ≤ b ∧ b ≤ 122) ∨ (65 ≤ b ∧ b ≤ 90) ∨ b = 95)
set_option maxRecDepth 100000 in
theorem zq_e_mIsLetter {b : Int} (h : iR b) : s_Mo_isLetter b = some (if zq_ltB b then 1 else 0) := by
  unfold s_Mo_isLetter q_Mo_isLetter_12 q_Mo_isLetter_24 q_Mo_isLetter_30 zq_ltB
  rw [w32_id h]
  simp only [decide_eq_true_eq]
  (repeat' split) <;> first | rfl | omega
set_option maxRecDepth 100000 in
theorem zq_nm_lt (b : Int) : zq_nmB b = (zq_ltB b || zq_dgB b) := by
  unfold zq_nmB zq_ltB zq_dgB
  rw [← Bool.decide_or]
  congr 1
  apply propext; constructor <;> intro h <;> omega
set_option maxRecDepth 100000 in
/-- the six fields of the reading -/
def zq_mxs (M : MS) (k f t : Int) (x : Int64) : MS := MS.w_m_amount (MS.w_m_to (MS.w_m_from (MS.w_m_kind M k) f) t) x
set_option maxRecDepth 100000 in
def zq_mfs (M : MS) (a b : Int) : MS := MS.w_m_faultPlace (MS.w_m_faultCode M a) b
set_option maxRecDepth 100000 in
theorem zq_mxs_id (M : MS) : zq_mxs M M.m_kind M.m_from M.m_to M.m_amount = M := rfl
set_option maxRecDepth 100000 in
theorem zq_mby_mxs (M : MS) (k f t : Int) (x : Int64) : zq_mby (zq_mxs M k f t x) = zq_mby M := rfl
set_option maxRecDepth 100000 in
theorem zq_moI_mxs {M : MS} (h : zq_moI M) (k f t : Int) (x : Int64) : zq_moI (zq_mxs M k f t x) := h
set_option maxRecDepth 100000 in
theorem zq_e_flaw {M : MS} (a b : Int) (h : M.m_faultCode = 0) : s_Mo_flaw M a b = some (0, zq_mfs M a b) := by
  unfold s_Mo_flaw
  rw [h, if_pos (by decide)]; rfl
set_option maxRecDepth 100000 in
def zq_mk (k : Int) : Int := if k = 301 then 0 else if k = 302 then 1 else if k = 303 then 2 else if k = 304 then 3 else if k = 305 then 256 else if k = 306 then 257 else if k = 307 then 258 else k
set_option maxRecDepth 100000 in
theorem zq_mby_T {M : MS} (h : zq_moI M) : zq_tpT (zq_mby M) M.m_length := ⟨zq_mby_R M, fun i => by unfold zq_mby; split <;> omega⟩
set_option maxRecDepth 100000 in
theorem zq_T_in {T : Int → Int} {n : Int} (h : zq_tpT T n) {i : Int} (hi : T i ≠ -1) : 0 ≤ i ∧ i < n := by
  by_cases c : 0 ≤ i ∧ i < n
  · exact c
  · exact absurd ((h.2 i).mpr c) hi
set_option maxRecDepth 100000 in
theorem zq_E_mName {M : MS} (h : zq_moI M) (k0 f : Int) (x : Int64) : ∀ (k : Nat) (b : Int), 0 ≤ b → b ≤ 1000009 → (M.m_length - b).toNat < k → q_Mo_next_98 k (zq_mxs M k0 f b x) = some (1, zq_mxs M k0 f (zq_nmE (zq_mby M) M.m_length b) x)
  | 0, b => by omega
  | k + 1, b => by
    intro hb0 hb1 hk
    have h1 := h.1; have h2 := h.2.1
    have hz := zq_mz_R M b
    have ht := (zq_mby_T h).2 b
    have st : zq_nmB (zq_mz (zq_mby M b)) = false → zq_nmE (zq_mby M) M.m_length b = b := fun e => by
      unfold zq_nmE; exact zq_rfn_stop (P := fun j => zq_nmB (zq_mby M j)) (fun hl => by
        show zq_nmB (zq_mby M b) = false
        unfold zq_mz at e; rw [if_neg (by rw [ht]; omega)] at e; exact e)
    have go : zq_nmB (zq_mz (zq_mby M b)) = true → b < M.m_length ∧ zq_nmE (zq_mby M) M.m_length b = zq_nmE (zq_mby M) M.m_length (b + 1) := fun e => by
      have hne : ¬ zq_mby M b = -1 := fun e2 => by rw [e2] at e; revert e; decide
      have : b < M.m_length := by rw [ht] at hne; omega
      refine ⟨this, ?_⟩
      unfold zq_nmE; exact zq_rfn_step (P := fun j => zq_nmB (zq_mby M j)) this (by
        show zq_nmB (zq_mby M b) = true
        unfold zq_mz at e; rw [if_neg hne] at e; exact e)
    rw [zq_nm_lt] at st go
    rw [q_Mo_next_98]
    refine (zq_mb2_eq (zq_e_mat (zq_moI_mxs h _ _ _ _) (i := b) ⟨by omega, by omega⟩)).trans ?_
    rw [zq_mby_mxs]
    refine (zq_mb1_eq (zq_e_mIsLetter (b := zq_mz (zq_mby M b)) ⟨by omega, by omega⟩)).trans ?_
    rw [zq_w32_b]; simp only [zq_b_eq0]
    by_cases c1 : zq_ltB (zq_mz (zq_mby M b)) = false
    · rw [if_pos c1]
      refine (zq_mb2_eq (zq_e_mat (zq_moI_mxs h _ _ _ _) (i := b) ⟨by omega, by omega⟩)).trans ?_
      rw [zq_mby_mxs]
      refine (zq_mb1_eq (zq_e_mIsDigit (b := zq_mz (zq_mby M b)) ⟨by omega, by omega⟩)).trans ?_
      rw [zq_w32_b]; simp only [zq_b_eq0]
      by_cases c2 : zq_dgB (zq_mz (zq_mby M b)) = false
      · rw [if_pos c2, st (by rw [c1, c2]; rfl)]
      · have g := go (by simp at c2; rw [c2]; simp)
        rw [if_neg c2, g.2]
        exact zq_E_mName h k0 f x k (b + 1) (by omega) (by omega) (by omega)
    · have g := go (by simp at c1; rw [c1]; simp)
      rw [if_neg c1, g.2]
      exact zq_E_mName h k0 f x k (b + 1) (by omega) (by omega) (by omega)
set_option maxRecDepth 100000 in
theorem zq_E_mQuo2 {M : MS} (h : zq_moI M) (k0 f : Int) (x : Int64) (b : Int) (hb0 : 0 ≤ b) (hb1 : b ≤ 1000009) (hf : M.m_faultCode = 0) : q_Mo_next_223 (zq_mxs M k0 f b x) = if zq_mby M b = 34 then some (1, zq_mxs M k0 f (b + 1) x) else some (0, zq_mfs (zq_mxs M k0 f b x) 1 f) := by
  have hz := zq_mz_R M b
  unfold q_Mo_next_223
  refine (zq_mb2_eq (zq_e_mat (zq_moI_mxs h _ _ _ _) (i := b) ⟨by omega, by omega⟩)).trans ?_
  rw [zq_mby_mxs, zq_w32i (by omega) (by omega)]
  by_cases c1 : zq_mby M b = 34
  · rw [if_pos c1, if_pos (by rw [c1]; rfl)]; rfl
  · rw [if_neg c1, if_neg (by unfold zq_mz; split <;> omega)]
    refine (zq_mb2_eq (zq_e_flaw (M := zq_mxs M k0 f b x) 1 f hf)).trans ?_
    rfl
set_option maxRecDepth 100000 in
theorem zq_E_mQuo {M : MS} (h : zq_moI M) (k0 f : Int) (x : Int64) (hf : M.m_faultCode = 0) : ∀ (k : Nat) (b : Int), 0 ≤ b → b ≤ 1000009 → (M.m_length - b).toNat < k → q_Mo_next_160 k (zq_mxs M k0 f b x) = if zq_mby M (zq_qtE (zq_mby M) M.m_length b) = 34 then some (1, zq_mxs M k0 f (zq_qtE (zq_mby M) M.m_length b + 1) x) else some (0, zq_mfs (zq_mxs M k0 f (zq_qtE (zq_mby M) M.m_length b) x) 1 f)
  | 0, b => by omega
  | k + 1, b => by
    intro hb0 hb1 hk
    have h1 := h.1; have h2 := h.2.1
    have hz := zq_mz_R M b
    have ht := (zq_mby_T h).2 b
    rw [q_Mo_next_160]
    show (if w32 M.m_length ≤ w32 b then _ else _) = _
    rw [zq_w32i (by omega) (by omega), zq_w32i (by omega) (by omega)]
    by_cases c1 : M.m_length ≤ b
    · rw [if_pos c1, zq_qtE, zq_rfn_stop (by omega)]; exact zq_E_mQuo2 h k0 f x b hb0 hb1 hf
    · rw [if_neg c1]
      have hne : ¬ zq_mby M b = -1 := by rw [ht]; omega
      have hm : zq_mz (zq_mby M b) = zq_mby M b := by unfold zq_mz; rw [if_neg hne]
      have st : zq_qtB (zq_mby M b) = false → q_Mo_next_223 (zq_mxs M k0 f b x) = if zq_mby M (zq_qtE (zq_mby M) M.m_length b) = 34 then some (1, zq_mxs M k0 f (zq_qtE (zq_mby M) M.m_length b + 1) x) else some (0, zq_mfs (zq_mxs M k0 f (zq_qtE (zq_mby M) M.m_length b) x) 1 f) := fun e => by
        rw [zq_qtE, zq_rfn_stop (P := fun j => zq_qtB (zq_mby M j)) (fun _ => e)]; exact zq_E_mQuo2 h k0 f x b hb0 hb1 hf
      refine (zq_mb2_eq (zq_e_mat (zq_moI_mxs h _ _ _ _) (i := b) ⟨by omega, by omega⟩)).trans ?_
      rw [zq_mby_mxs, zq_w32i (by omega) (by omega), hm]
      by_cases c2 : zq_mby M b ≤ 31
      · rw [if_pos c2]; exact st (by unfold zq_qtB; simp; omega)
      · rw [if_neg c2]
        refine (zq_mb2_eq (zq_e_mat (zq_moI_mxs h _ _ _ _) (i := b) ⟨by omega, by omega⟩)).trans ?_
        rw [zq_mby_mxs, zq_w32i (by omega) (by omega), hm]
        by_cases c3 : 127 ≤ zq_mby M b
        · rw [if_pos c3]; exact st (by unfold zq_qtB; simp; omega)
        · rw [if_neg c3]
          refine (zq_mb2_eq (zq_e_mat (zq_moI_mxs h _ _ _ _) (i := b) ⟨by omega, by omega⟩)).trans ?_
          rw [zq_mby_mxs, zq_w32i (by omega) (by omega), hm]
          by_cases c4 : zq_mby M b = 34
          · rw [if_pos c4]; exact st (by rw [c4]; decide)
          · rw [if_neg c4, zq_qtE, zq_rfn_step (P := fun j => zq_qtB (zq_mby M j)) (by omega) (by rw [zq_qtB_iff]; omega)]
            exact zq_E_mQuo h k0 f x hf k (b + 1) (by omega) (by omega) (by omega)
set_option maxRecDepth 100000 in
/-- the reference's test of the next digit is the program's -/
theorem zq_num_ok {x : Int64} {d : Int} (hd : 0 ≤ d ∧ d ≤ 9) : x.toInt ≤ ((ll 9223372036854775807 - ll d) / ll 10).toInt ↔ (x.toInt < 922337203685477580 ∨ x.toInt = 922337203685477580 ∧ d < 8) := by
  rw [ll_sub, ll_div ⟨by omega, by omega⟩ (by constructor <;> omega) (by omega) (by omega), ll_toInt ⟨by omega, by omega⟩]
  omega
set_option maxRecDepth 100000 in
theorem zq_E_mBadNum {M : MS} (h : zq_moI M) (f : Int) (x : Int64) (hf : M.m_faultCode = 0) : ∀ (k : Nat) (b : Int), 0 ≤ b → b ≤ 1000009 → (M.m_length - b).toNat < k → ∃ b', q_Mo_readNumber_12 k 0 (zq_mxs M 1 f b x) = some (0, zq_mfs (zq_mxs M 1 f b' x) 1 f)
  | 0, b => by omega
  | k + 1, b => by
    intro hb0 hb1 hk
    have h1 := h.1; have h2 := h.2.1
    have hz := zq_mz_R M b
    have ht := (zq_mby_T h).2 b
    rw [q_Mo_readNumber_12]
    have e1 : ∀ F : Int → MS → Option (Int × MS), mb2 (s_Mo_at (zq_mxs M 1 f b x) (zq_mxs M 1 f b x).m_to) F = F (zq_mz (zq_mby M b)) (zq_mxs M 1 f b x) := fun F => zq_mb2_eq (zq_e_mat (zq_moI_mxs h _ _ _ _) (i := b) ⟨by omega, by omega⟩)
    rw [e1]
    have e2 : ∀ F : Int → Option (Int × MS), mb1 (s_Mo_isDigit (zq_mz (zq_mby M b))) F = F (if zq_dgB (zq_mz (zq_mby M b)) then 1 else 0) := fun F => zq_mb1_eq (zq_e_mIsDigit (b := zq_mz (zq_mby M b)) ⟨by omega, by omega⟩)
    rw [e2, zq_w32_b]; simp only [zq_b_eq0]
    by_cases c1 : zq_dgB (zq_mz (zq_mby M b)) = false
    · rw [if_pos c1, if_pos (by decide)]
      exact ⟨b, (zq_mb2_eq (zq_e_flaw (M := zq_mxs M 1 f b x) 1 f hf)).trans rfl⟩
    · rw [if_neg c1, e1]
      have : b < M.m_length := by
        have hne : ¬ zq_mby M b = -1 := fun e2 => by rw [e2] at c1; revert c1; decide
        rw [ht] at hne; omega
      exact zq_E_mBadNum h f x hf k (b + 1) (by omega) (by omega) (by omega)
set_option maxRecDepth 100000 in
theorem zq_E_mNum {M : MS} (h : zq_moI M) (f : Int) (hf : M.m_faultCode = 0) : ∀ (k : Nat) (b : Int) (x : Int64), 0 ≤ b → b ≤ 1000009 → (M.m_length - b).toNat < k →
    ((zq_nrn (zq_mby M) M.m_length b x).1 = 302 → q_Mo_readNumber_12 k 1 (zq_mxs M 1 f b x) = some (1, zq_mxs M 1 f (zq_nrn (zq_mby M) M.m_length b x).2.1 (zq_nrn (zq_mby M) M.m_length b x).2.2)) ∧
    ((zq_nrn (zq_mby M) M.m_length b x).1 = 300 → ∃ b' x', q_Mo_readNumber_12 k 1 (zq_mxs M 1 f b x) = some (0, zq_mfs (zq_mxs M 1 f b' x') 1 f))
  | 0, b, x => by omega
  | k + 1, b, x => by
    intro hb0 hb1 hk
    have h1 := h.1; have h2 := h.2.1
    have hz := zq_mz_R M b
    have ht := (zq_mby_T h).2 b
    rw [q_Mo_readNumber_12]
    have e1 : ∀ F : Int → MS → Option (Int × MS), mb2 (s_Mo_at (zq_mxs M 1 f b x) (zq_mxs M 1 f b x).m_to) F = F (zq_mz (zq_mby M b)) (zq_mxs M 1 f b x) := fun F => zq_mb2_eq (zq_e_mat (zq_moI_mxs h _ _ _ _) (i := b) ⟨by omega, by omega⟩)
    rw [e1]
    have e2 : ∀ F : Int → Option (Int × MS), mb1 (s_Mo_isDigit (zq_mz (zq_mby M b))) F = F (if zq_dgB (zq_mz (zq_mby M b)) then 1 else 0) := fun F => zq_mb1_eq (zq_e_mIsDigit (b := zq_mz (zq_mby M b)) ⟨by omega, by omega⟩)
    rw [e2, zq_w32_b]; simp only [zq_b_eq0]
    by_cases c1 : zq_dgB (zq_mz (zq_mby M b)) = false
    · rw [if_pos c1, if_neg (by decide), zq_nrn_end (fun hl => by unfold zq_mz at c1; rw [if_neg (by rw [ht]; omega)] at c1; exact c1)]
      exact ⟨fun _ => rfl, fun e => by simp at e⟩
    · rw [if_neg c1, e1]
      have hne : ¬ zq_mby M b = -1 := fun e2 => by rw [e2] at c1; revert c1; decide
      have hlt : b < M.m_length := by rw [ht] at hne; omega
      have hm : zq_mz (zq_mby M b) = zq_mby M b := by unfold zq_mz; rw [if_neg hne]
      rw [hm] at c1 hz ⊢
      have hd : zq_dgB (zq_mby M b) = true := by simpa using c1
      have hd2 := (zq_dgB_iff _).mp hd
      rw [if_neg (by decide)]
      have ok := zq_num_ok (x := x) (d := zq_mby M b - 48) ⟨by omega, by omega⟩
      have good : x.toInt ≤ ((ll 9223372036854775807 - ll (zq_mby M b - 48)) / ll 10).toInt → q_Mo_readNumber_70 (q_Mo_readNumber_12 k) (zq_mby M b - 48) (zq_mxs M 1 f b x) = q_Mo_readNumber_12 k 1 (zq_mxs M 1 f (b + 1) (x * ll 10 + ll (zq_mby M b - 48))) := fun _ => by
        unfold q_Mo_readNumber_70 q_Mo_readNumber_75 q_Mo_readNumber_99
        rw [if_neg (by decide), zq_w32i (by omega) (by omega)]
        show q_Mo_readNumber_12 k 1 (zq_mxs M 1 f (b + 1) (ll 10 * x + ll (zq_mby M b - 48))) = _
        rw [Int64.mul_comm]
      have bad : q_Mo_readNumber_74 (q_Mo_readNumber_12 k) (zq_mby M b - 48) (zq_mxs M 1 f b x) = q_Mo_readNumber_12 k 0 (zq_mxs M 1 f (b + 1) x) := by
        unfold q_Mo_readNumber_74 q_Mo_readNumber_75 q_Mo_readNumber_99
        rw [if_pos (by decide)]; rfl
      rw [show (zq_mxs M 1 f b x).m_amount = x from rfl, zq_w32i (z := zq_mby M b - 48) (by omega) (by omega)]
      by_cases c3 : x.toInt ≤ ((ll 9223372036854775807 - ll (zq_mby M b - 48)) / ll 10).toInt
      · rw [zq_nrn_go hlt hd c3]
        have ih := zq_E_mNum h f hf k (b + 1) (x * ll 10 + ll (zq_mby M b - 48)) (by omega) (by omega) (by omega)
        have g := good c3
        rcases ok.mp c3 with q | ⟨q1, q2⟩
        · rw [if_pos q, g]; exact ih
        · rw [if_neg (by omega), if_pos q1, if_neg (by omega), g]; exact ih
      · rw [zq_nrn_bad hlt hd c3]
        have ih := zq_E_mBadNum h f x hf k (b + 1) (by omega) (by omega) (by omega)
        have n3 := fun z => c3 (ok.mpr z)
        refine ⟨fun e => by simp at e, fun _ => ?_⟩
        obtain ⟨b', ih⟩ := ih
        by_cases q : x.toInt < 922337203685477580
        · exact absurd (Or.inl q) n3
        · rw [if_neg q]
          by_cases q1 : x.toInt = 922337203685477580
          · rw [if_pos q1, if_pos (by have := fun z => n3 (Or.inr ⟨q1, z⟩); omega), bad]; exact ⟨b', x, ih⟩
          · rw [if_neg q1, bad]; exact ⟨b', x, ih⟩
set_option maxRecDepth 100000 in
theorem zq_e_mSign {M : MS} {f s : Int} (hf : 0 ≤ f ∧ f ≤ 255) (hs : 0 ≤ s ∧ s ≤ 255) (h0 : M.m_faultCode = 0) : s_Mo_readSign M f s = if zq_sgK f s = 300 then some (0, zq_mfs M 1 M.m_from) else some (1, zq_mxs M (zq_mk (zq_sgK f s)) M.m_from (M.m_from + (if zq_sgK f s = 305 ∨ zq_sgK f s = 306 ∨ zq_sgK f s = 307 then 2 else 1)) M.m_amount) := by
  have wf : w32 f = f := zq_w32i (by omega) (by omega)
  have ws : w32 s = s := zq_w32i (by omega) (by omega)
  have two : ∀ z : Int, z = 256 ∨ z = 257 ∨ z = 258 → q_Mo_readSign_55 f z M = some (1, zq_mxs M z M.m_from (M.m_from + 2) M.m_amount) := by
    intro z hz
    unfold q_Mo_readSign_55 q_Mo_readSign_122 q_Mo_readSign_127
    have e : q_Mo_readSign_148 f z M = some (1, zq_mxs M z M.m_from (M.m_from + 2) M.m_amount) := by
      unfold q_Mo_readSign_148 q_Mo_readSign_158
      rw [zq_w32i (by omega) (by omega), if_neg (by omega), if_neg (by omega)]; rfl
    have e0 : ¬ w32 z = 0 := by rw [zq_w32i (by omega) (by omega)]; omega
    simp only [if_neg e0, e, ite_self]
  have one : (f = 37 ∨ f = 40 ∨ f = 41 ∨ f = 42 ∨ f = 43 ∨ f = 44 ∨ f = 45 ∨ f = 47 ∨ f = 61 ∨ f = 123 ∨ f = 125) → q_Mo_readSign_55 f 0 M = some (1, zq_mxs M f M.m_from (M.m_from + 1) M.m_amount) := by
    intro hz
    have e : q_Mo_readSign_122 f 0 M = some (1, zq_mxs M f M.m_from (M.m_from + 1) M.m_amount) := by
      unfold q_Mo_readSign_122 q_Mo_readSign_127 q_Mo_readSign_148 q_Mo_readSign_158
      rw [if_pos (by decide), if_neg (by decide), if_pos (by decide), if_pos (by decide)]; rfl
    unfold q_Mo_readSign_55
    rw [wf, e]
    generalize some (1, zq_mxs M f M.m_from (M.m_from + 1) M.m_amount) = X
    generalize q_Mo_readSign_127 f 0 0 M = Y
    clear e two h0
    rcases hz with r | r | r | r | r | r | r | r | r | r | r <;> subst r <;> rfl
  have non : ¬ (f = 37 ∨ f = 40 ∨ f = 41 ∨ f = 42 ∨ f = 43 ∨ f = 44 ∨ f = 45 ∨ f = 47 ∨ f = 61 ∨ f = 123 ∨ f = 125) → q_Mo_readSign_55 f 0 M = some (0, zq_mfs M 1 M.m_from) := by
    intro hz
    have e : q_Mo_readSign_127 f 0 0 M = some (0, zq_mfs M 1 M.m_from) := by
      unfold q_Mo_readSign_127
      rw [if_pos (by decide), if_pos (by decide)]
      exact (zq_mb2_eq (zq_e_flaw (M := M) 1 M.m_from h0)).trans rfl
    unfold q_Mo_readSign_55
    rw [wf, e]
    generalize some ((0 : Int), zq_mfs M 1 M.m_from) = X
    generalize q_Mo_readSign_122 f 0 M = Y
    simp only [not_or] at hz
    obtain ⟨r1, r2, r3, r4, r5, r6, r7, r8, r9, r10, r11⟩ := hz
    rw [if_neg r5, if_neg r7, if_neg r4, if_neg r8, if_neg r1, if_neg r2, if_neg r3, if_neg r10, if_neg r11, if_neg r6, if_neg r9]
  unfold s_Mo_readSign q_Mo_readSign_18 q_Mo_readSign_36 q_Mo_readSign_54
  rw [wf, ws]
  by_cases c1 : f = 33
  · rw [if_pos c1]
    by_cases c2 : s = 61
    · rw [if_pos c2, two 256 (by omega), show zq_sgK f s = 305 from by unfold zq_sgK; rw [if_pos c1, if_pos c2]]; rfl
    · rw [if_neg c2, if_neg (by omega), if_pos c1]
      by_cases c3 : s = 94
      · rw [if_pos c3, two 258 (by omega), show zq_sgK f s = 307 from by unfold zq_sgK; rw [if_pos c1, if_neg c2, if_pos c3]]; rfl
      · rw [if_neg c3, non (by omega), show zq_sgK f s = 300 from by unfold zq_sgK; rw [if_pos c1, if_neg c2, if_neg c3]]; rfl
  · rw [if_neg c1, if_neg c1]
    by_cases c2 : f = 94
    · rw [if_pos c2]
      by_cases c3 : s = 61
      · rw [if_pos c3, two 257 (by omega), show zq_sgK f s = 306 from by unfold zq_sgK; rw [if_neg c1, if_pos c2, if_pos c3]]; rfl
      · rw [if_neg c3, non (by omega), show zq_sgK f s = 300 from by unfold zq_sgK; rw [if_neg c1, if_pos c2, if_neg c3]]; rfl
    · rw [if_neg c2]
      by_cases c3 : f = 37 ∨ f = 40 ∨ f = 41 ∨ f = 42 ∨ f = 43 ∨ f = 44 ∨ f = 45 ∨ f = 47 ∨ f = 61 ∨ f = 123 ∨ f = 125
      · rw [one c3, show zq_sgK f s = f from by unfold zq_sgK; rw [if_neg c1, if_neg c2, if_pos c3], if_neg (by omega), if_neg (by omega)]
        rw [show zq_mk f = f from by clear one two non wf; unfold zq_mk; rcases c3 with r | r | r | r | r | r | r | r | r | r | r <;> subst r <;> rfl]
      · rw [non c3, show zq_sgK f s = 300 from by unfold zq_sgK; rw [if_neg c1, if_neg c2, if_neg c3]]; rfl
set_option maxRecDepth 100000 in
theorem zq_tokA_kind {T : Int → Int} {n a : Int} {x : Int64} (hT : zq_tpT T n) : -1 ≤ (zq_tokA T n a x).1 ∧ (zq_tokA T n a x).1 ≤ 400 := by
  by_cases c1 : T a = -1
  · rw [zq_tokA_fin c1]; simp
  by_cases c2 : zq_dgB (T a) = true
  · rw [zq_tokA_dig c1 c2]; have := (zq_nr_ge T (n - a).toNat a (ll 0)).2.2; unfold zq_nrn; omega
  simp at c2
  by_cases c3 : zq_nmB (T a) = true
  · rw [zq_tokA_nam c1 c2 c3]; simp
  simp at c3
  by_cases c4 : T a = 34
  · rw [zq_tokA_quo c4]; simp only; split <;> omega
  · rw [zq_tokA_sig c1 c2 c3 c4]; exact zq_sgK_R _ _ (hT.1 a)
set_option maxRecDepth 100000 in
theorem zq_E_mNext2 {M : MS} (h : zq_moI M) (k0 f a : Int) (x : Int64) (ha : 0 ≤ a) (ha2 : a ≤ 1000000) (hf : M.m_faultCode = 0) :
    ((zq_tokA (zq_mby M) M.m_length a x).1 ≠ 300 → q_Mo_next_38 (zq_mxs M k0 f a x) = some (1, zq_mxs M (zq_mk (zq_tokA (zq_mby M) M.m_length a x).1) a (zq_tokA (zq_mby M) M.m_length a x).2.1 (zq_tokA (zq_mby M) M.m_length a x).2.2)) ∧
    ((zq_tokA (zq_mby M) M.m_length a x).1 = 300 → ∃ k' t' x', q_Mo_next_38 (zq_mxs M k0 f a x) = some (0, zq_mfs (zq_mxs M k' a t' x') 1 a)) := by
  have h1 := h.1; have h2 := h.2.1
  have hb := zq_mby_R M a
  have hz := zq_mz_R M a
  have ht := (zq_mby_T h).2 a
  unfold q_Mo_next_38
  rw [show (mb2 (s_Mo_at (MS.w_m_from (zq_mxs M k0 f a x) (zq_mxs M k0 f a x).m_to) (zq_mxs M k0 f a x).m_to) (fun r36 S36 => if w32 S36.m_from < w32 S36.m_length then mb1 (s_Mo_isDigit r36) (fun r38 => if w32 r38 = 0 then mb1 (s_Mo_isLetter r36) (fun r40 => if w32 r40 = 0 then if w32 r36 = 34 then q_Mo_next_160 fU (MS.w_m_to (MS.w_m_kind S36 3) (S36.m_to + 1)) else mb2 (s_Mo_at S36 (S36.m_from + 1)) (fun r43 S43 => mb2 (s_Mo_readSign S43 r36 r43) (fun r44 S44 => if r44 = 0 ∨ r44 = 1 then some (r44, S44) else none)) else q_Mo_next_98 fU (MS.w_m_kind S36 2)) else mb2 (s_Mo_readNumber S36 ) (fun r46 S46 => if r46 = 0 ∨ r46 = 1 then some (r46, S46) else none)) else some (1, MS.w_m_kind S36 0))) = _ from zq_mb2_eq (zq_e_mat (show zq_moI (zq_mxs M k0 a a x) from h) (i := a) ⟨by omega, by omega⟩)]
  rw [show (zq_mxs M k0 a a x).m_from = a from rfl, show (zq_mxs M k0 a a x).m_length = M.m_length from rfl, zq_w32i (z := a) (by omega) (by omega), zq_w32i (z := M.m_length) (by omega) (by omega), zq_mby_mxs]
  by_cases c1 : zq_mby M a = -1
  · rw [zq_tokA_fin c1, if_neg (by rw [ht] at c1; omega)]
    exact ⟨fun _ => rfl, fun e => by simp at e⟩
  · rw [if_pos (by rw [ht] at c1; omega)]
    have hm : zq_mz (zq_mby M a) = zq_mby M a := by unfold zq_mz; rw [if_neg c1]
    rw [hm]
    have e2 : ∀ F : Int → Option (Int × MS), mb1 (s_Mo_isDigit (zq_mby M a)) F = F (if zq_dgB (zq_mby M a) then 1 else 0) := fun F => zq_mb1_eq (zq_e_mIsDigit (b := zq_mby M a) ⟨by omega, by omega⟩)
    have e3 : ∀ F : Int → Option (Int × MS), mb1 (s_Mo_isLetter (zq_mby M a)) F = F (if zq_ltB (zq_mby M a) then 1 else 0) := fun F => zq_mb1_eq (zq_e_mIsLetter (b := zq_mby M a) ⟨by omega, by omega⟩)
    rw [e2, zq_w32_b]; simp only [zq_b_eq0]
    by_cases c2 : zq_dgB (zq_mby M a) = false
    · rw [if_pos c2, e3, zq_w32_b]; simp only [zq_b_eq0]
      by_cases c3 : zq_ltB (zq_mby M a) = false
      · rw [if_pos c3, zq_w32i (by omega) (by omega)]
        have c3' : zq_nmB (zq_mby M a) = false := by rw [zq_nm_lt, c2, c3]; rfl
        by_cases c4 : zq_mby M a = 34
        · rw [if_pos c4, zq_tokA_quo c4]
          have q := zq_E_mQuo h 3 a x hf fU (a + 1) (by omega) (by omega) (zq_fU_gt (by omega))
          rw [show (MS.w_m_to (MS.w_m_kind (zq_mxs M k0 a a x) 3) ((zq_mxs M k0 a a x).m_to + 1)) = zq_mxs M 3 a (a + 1) x from rfl, q]
          by_cases c5 : zq_mby M (zq_qtE (zq_mby M) M.m_length (a + 1)) = 34
          · rw [if_pos c5, if_pos c5]; exact ⟨fun _ => rfl, fun e => by simp at e⟩
          · rw [if_neg c5, if_neg c5]; exact ⟨fun e => by simp at e, fun _ => ⟨_, _, _, rfl⟩⟩
        · rw [if_neg c4, zq_tokA_sig c1 c2 c3' c4]
          have e4 : ∀ F : Int → MS → Option (Int × MS), mb2 (s_Mo_at (zq_mxs M k0 a a x) (a + 1)) F = F (zq_mz (zq_mby M (a + 1))) (zq_mxs M k0 a a x) := fun F => zq_mb2_eq (zq_e_mat (show zq_moI (zq_mxs M k0 a a x) from h) (i := a + 1) ⟨by omega, by omega⟩)
          rw [e4]
          have hs := zq_mby_R M (a + 1)
          have hz2 := zq_mz_R M (a + 1)
          have ek : zq_sgK (zq_mby M a) (zq_mby M (a + 1)) = zq_sgK (zq_mby M a) (zq_mz (zq_mby M (a + 1))) := by
            unfold zq_mz
            by_cases c6 : zq_mby M (a + 1) = -1
            · rw [if_pos c6, c6]; unfold zq_sgK; simp
            · rw [if_neg c6]
          rw [ek]
          have e5 := zq_e_mSign (M := zq_mxs M k0 a a x) (f := zq_mby M a) (s := zq_mz (zq_mby M (a + 1))) ⟨by omega, by omega⟩ hz2 hf
          rw [e5]
          by_cases c7 : zq_sgK (zq_mby M a) (zq_mz (zq_mby M (a + 1))) = 300
          · rw [if_pos c7]; exact ⟨fun e => absurd c7 e, fun _ => ⟨k0, a, x, rfl⟩⟩
          · rw [if_neg c7]; exact ⟨fun _ => rfl, fun e => absurd e c7⟩
      · have c3' : zq_nmB (zq_mby M a) = true := by simp at c3; rw [zq_nm_lt, c3]; rfl
        rw [if_neg c3, zq_tokA_nam c1 c2 c3']
        have q := zq_E_mName h 2 a x fU a (by omega) (by omega) (zq_fU_gt (by omega))
        exact ⟨fun _ => q, fun e => by simp at e⟩
    · rw [if_neg c2, zq_tokA_dig c1 (by simpa using c2)]
      have q := zq_E_mNum h a hf fU a (ll 0) (by omega) (by omega) (zq_fU_gt (by omega))
      have kk := (zq_nr_ge (zq_mby M) (M.m_length - a).toNat a (ll 0)).2.2
      rw [show s_Mo_readNumber (zq_mxs M k0 a a x) = q_Mo_readNumber_12 fU 1 (zq_mxs M 1 a a (ll 0)) from rfl]
      refine ⟨fun e => ?_, fun e => ?_⟩
      · have e2 : (zq_nrn (zq_mby M) M.m_length a (ll 0)).1 = 302 := by unfold zq_nrn at *; omega
        rw [q.1 e2, e2]; rfl
      · obtain ⟨b', x', q2⟩ := q.2 e
        exact ⟨1, b', x', by rw [q2]; rfl⟩
set_option maxRecDepth 100000 in
theorem zq_E_mNext {M : MS} (h : zq_moI M) (k0 f : Int) (x : Int64) (hf : M.m_faultCode = 0) : ∀ (k : Nat) (a : Int), 0 ≤ a → a ≤ 1000000 → (M.m_length - a).toNat < k →
    ((zq_tok (zq_mby M) M.m_length a x).1 ≠ 300 → q_Mo_next_0 k (zq_mxs M k0 f a x) = some (1, zq_mxs M (zq_mk (zq_tok (zq_mby M) M.m_length a x).1) (zq_skp (zq_mby M) M.m_length a) (zq_tok (zq_mby M) M.m_length a x).2.1 (zq_tok (zq_mby M) M.m_length a x).2.2)) ∧
    ((zq_tok (zq_mby M) M.m_length a x).1 = 300 → ∃ k' t' x', q_Mo_next_0 k (zq_mxs M k0 f a x) = some (0, zq_mfs (zq_mxs M k' (zq_skp (zq_mby M) M.m_length a) t' x') 1 (zq_skp (zq_mby M) M.m_length a)))
  | 0, a => by omega
  | k + 1, a => by
    intro ha0 ha1 hk
    have h1 := h.1; have h2 := h.2.1
    have hb := h.2.2 a
    rw [q_Mo_next_0, show (zq_mxs M k0 f a x).m_length = M.m_length from rfl, show (zq_mxs M k0 f a x).m_to = a from rfl, show (zq_mxs M k0 f a x).m_tape = M.m_tape from rfl]
    rw [zq_w32i (z := a) (by omega) (by omega), zq_w32i (z := M.m_length) (by omega) (by omega)]
    by_cases c1 : M.m_length ≤ a
    · rw [if_pos c1, zq_tok, zq_skp, zq_rfn_stop (by omega)]; exact zq_E_mNext2 h k0 f a x ha0 ha1 hf
    · rw [if_neg c1, if_pos ⟨by omega, by omega⟩, zq_w32i (by omega) (by omega)]
      have em : zq_mby M a = M.m_tape a % 256 := if_pos ⟨by omega, by omega⟩
      by_cases c2 : M.m_tape a = 32
      · rw [if_pos c2, zq_tok, zq_skp, zq_rfn_step (P := fun j => zq_mby M j == 32) (by omega) (by rw [em, c2]; rfl)]
        exact zq_E_mNext h k0 f x hf k (a + 1) (by omega) (by omega) (by omega)
      · rw [if_neg c2, zq_tok, zq_skp, zq_rfn_stop (P := fun j => zq_mby M j == 32) (fun _ => by rw [em]; simp; omega)]
        exact zq_E_mNext2 h k0 f a x ha0 ha1 hf
set_option maxRecDepth 100000 in
/-- the reference's next token is the program's -/
theorem zq_e_next {M : MS} (h : zq_moI M) (h0 : 0 ≤ M.m_to) (h1 : M.m_to ≤ 1000000) (hf : M.m_faultCode = 0) :
    ((zq_tok (zq_mby M) M.m_length M.m_to M.m_amount).1 ≠ 300 → s_Mo_next M = some (1, zq_mxs M (zq_mk (zq_tok (zq_mby M) M.m_length M.m_to M.m_amount).1) (zq_skp (zq_mby M) M.m_length M.m_to) (zq_tok (zq_mby M) M.m_length M.m_to M.m_amount).2.1 (zq_tok (zq_mby M) M.m_length M.m_to M.m_amount).2.2)) ∧
    ((zq_tok (zq_mby M) M.m_length M.m_to M.m_amount).1 = 300 → ∃ k' t' x', s_Mo_next M = some (0, zq_mfs (zq_mxs M k' (zq_skp (zq_mby M) M.m_length M.m_to) t' x') 1 (zq_skp (zq_mby M) M.m_length M.m_to))) :=
  zq_E_mNext h M.m_kind M.m_from M.m_amount hf fU M.m_to h0 h1 (zq_fU_gt (by have := h.2.1; omega))
/-! ===== the long at a place of the tape ===== -/
set_option maxRecDepth 100000 in
def zq_lnF (T : Int → Int) (a : Int) : Nat → Int64 → Int → Int64
  | 0, v, _ => v
  | m + 1, v, j => zq_lnF T a m ((v <<< ((ii 8).toInt64 &&& 63)) ||| (ll (T (a + j) % 256))) (j + 1)
set_option maxRecDepth 100000 in
theorem zq_E_longAt {c : CW} {S : WS} (h : zq_tpI c S) {a : Int} (ha : 0 ≤ a ∧ a ≤ 1000000) : ∀ (m k : Nat) (v : Int64) (j : Int), m < k → j = 8 - m → m ≤ 8 → q_Tp_longAt_5 c k a v j S = some (zq_lnF (zq_bt S) a m v j, S)
  | 0, k + 1, v, j => by
    intro _ hj _
    rw [q_Tp_longAt_5, zq_w32i (by omega) (by omega), if_pos (by omega), zq_lnF]
  | m + 1, k + 1, v, j => by
    intro hk hj hm
    have hb := zq_bt_R S (a + j)
    rw [q_Tp_longAt_5, zq_w32i (by omega) (by omega), if_neg (by omega)]
    refine (zq_mb2_eq (zq_e_byteAt h (i := a + j) ⟨by omega, by omega⟩)).trans ?_
    rw [zq_gAnd255, zq_w32i (by omega) (by omega), zq_lnF]
    exact zq_E_longAt h ha m k _ (j + 1) (by omega) (by omega) (by omega)
  | m, 0, v, j => by omega
set_option maxRecDepth 100000 in
theorem zq_e_longAt {c : CW} {S : WS} (h : zq_tpI c S) {a : Int} (ha : 0 ≤ a ∧ a ≤ 1000000) : s_Tp_longAt c S a = some (zq_lnF (zq_bt S) a 8 (ll 0) 0, S) :=
  zq_E_longAt h ha 8 fU (ll 0) 0 (zq_fU_gt (by omega)) (by omega) (by omega)
set_option maxRecDepth 100000 in
theorem zq_E_numberAt {M : MS} (h : zq_moI M) {a : Int} (ha : 0 ≤ a ∧ a + 8 ≤ M.m_length) : ∀ (m k : Nat) (v : Int64) (j : Int), m < k → j = 8 - m → m ≤ 8 → q_Mo_numberAt_5 k a v j M = some (zq_lnF (zq_mby M) a m v j, M)
  | 0, k + 1, v, j => by
    intro _ hj _
    rw [q_Mo_numberAt_5, zq_w32i (by omega) (by omega), if_pos (by omega), zq_lnF]
  | m + 1, k + 1, v, j => by
    intro hk hj hm
    have h2 := h.2.1
    rw [q_Mo_numberAt_5, zq_w32i (by omega) (by omega), if_neg (by omega), if_pos ⟨by omega, by omega⟩, zq_gAnd255, zq_w32i (by omega) (by omega), zq_lnF]
    rw [show zq_mby M (a + j) % 256 = M.m_tape (a + j) % 256 from by unfold zq_mby; rw [if_pos ⟨by omega, by omega⟩]; omega]
    exact zq_E_numberAt h ha m k _ (j + 1) (by omega) (by omega) (by omega)
  | m, 0, v, j => by omega
set_option maxRecDepth 100000 in
theorem zq_e_numberAt {M : MS} (h : zq_moI M) {a : Int} (ha : 0 ≤ a ∧ a + 8 ≤ M.m_length) : s_Mo_numberAt M a = some (zq_lnF (zq_mby M) a 8 (ll 0) 0, M) :=
  zq_E_numberAt h ha 8 fU (ll 0) 0 (zq_fU_gt (by omega)) (by omega) (by omega)
/-! ===== words of labels ===== -/
set_option maxRecDepth 100000 in
def zq_wdB (b : Int) : Bool := decide (33 ≤ b ∧ b ≤ 126 ∧ b ≠ 34 ∧ b ≠ 61 ∧ b ≠ 44 ∧ b ≠ 40 ∧ b ≠ 41 ∧ b ≠ 123 ∧ b ≠ 125)
set_option maxRecDepth 100000 in
theorem zq_wdB_iff (b : Int) : zq_wdB b = true ↔ 33 ≤ b ∧ b ≤ 126 ∧ b ≠ 34 ∧ b ≠ 61 ∧ b ≠ 44 ∧ b ≠ 40 ∧ b ≠ 41 ∧ b ≠ 123 ∧ b ≠ 125 := by unfold zq_wdB; simp
set_option maxRecDepth 100000 in
theorem zq_e_isWordByte {b : Int} (h : iR b) : s_LR_isWordByte b = some (if zq_wdB b then 1 else 0) := by
  unfold s_LR_isWordByte
  rw [w32_id h]
  by_cases c : zq_wdB b = true
  · rw [if_pos c]
    have := (zq_wdB_iff b).mp c
    (repeat' split) <;> first | rfl | omega
  · rw [if_neg c]
    rw [zq_wdB_iff] at c
    (repeat' split) <;> first | rfl | omega
set_option maxRecDepth 100000 in
theorem zq_e_mIsWord {b : Int} (h : iR b) : s_Mo_isWord b = some (if zq_wdB b then 1 else 0) := by
  unfold s_Mo_isWord
  rw [w32_id h]
  by_cases c : zq_wdB b = true
  · rw [if_pos c]
    have := (zq_wdB_iff b).mp c
    (repeat' split) <;> first | rfl | omega
  · rw [if_neg c]
    rw [zq_wdB_iff] at c
    (repeat' split) <;> first | rfl | omega
set_option maxRecDepth 100000 in
/-- the word's end: at most k bytes -/
def zq_wdE (T : Int → Int) (k : Int) (p : Int) : Int := zq_rfn (fun j => zq_wdB (T j)) (p + k) p
set_option maxRecDepth 100000 in
theorem zq_wdE_le (T : Int → Int) (k p : Int) (hk : 0 ≤ k) : p ≤ zq_wdE T k p ∧ zq_wdE T k p ≤ p + k := by
  have := zq_rfn_le (fun j => zq_wdB (T j)) (p + k) p
  unfold zq_wdE; omega
set_option maxRecDepth 100000 in
theorem zq_E_wordEnd {c : CW} {S : WS} (h : zq_tpI c S) {p : Int} (hp : 0 ≤ p ∧ p ≤ 1000000) : ∀ (m k : Nat) (j : Int), m < k → j = 24 - m → m ≤ 24 → q_LR_wordEnd_2 c k p j S = some (zq_rfn (fun i => zq_wdB (zq_bt S i)) (p + 24) (p + j), S)
  | 0, k + 1, j => by
    intro _ hj _
    rw [q_LR_wordEnd_2, zq_w32i (by omega) (by omega), if_pos (by omega), q_LR_wordEnd_27, zq_rfn_stop (by omega)]
  | m + 1, k + 1, j => by
    intro hk hj hm
    have hb := zq_bt_R S (p + j)
    rw [q_LR_wordEnd_2, zq_w32i (by omega) (by omega), if_neg (by omega)]
    refine (zq_mb2_eq (zq_e_byteAt h (i := p + j) ⟨by omega, by omega⟩)).trans ?_
    refine (zq_mb1_eq (zq_e_isWordByte (b := zq_bt S (p + j)) ⟨by omega, by omega⟩)).trans ?_
    rw [zq_w32_b]; simp only [zq_b_eq0]
    by_cases c2 : zq_wdB (zq_bt S (p + j)) = false
    · rw [if_pos c2, zq_rfn_stop (P := fun i => zq_wdB (zq_bt S i)) (fun _ => c2)]; rfl
    · rw [if_neg c2, zq_rfn_step (P := fun i => zq_wdB (zq_bt S i)) (by omega) (by simpa using c2), Int.add_assoc]
      exact zq_E_wordEnd h hp m k (j + 1) (by omega) (by omega) (by omega)
  | m, 0, j => by omega
set_option maxRecDepth 100000 in
theorem zq_e_wordEnd {c : CW} {S : WS} (h : zq_tpI c S) {p : Int} (hp : 0 ≤ p ∧ p ≤ 1000000) : s_LR_wordEnd c S p = some (zq_wdE (zq_bt S) 24 p, S) := by
  have := zq_E_wordEnd h hp 24 fU 0 (zq_fU_gt (by omega)) (by omega) (by omega)
  rw [Int.add_zero] at this; exact this
set_option maxRecDepth 100000 in
theorem zq_E_wordLength {M : MS} (h : zq_moI M) {p : Int} (hp : 0 ≤ p ∧ p ≤ 1000000) : ∀ (m k : Nat) (j : Int), m < k → j = 25 - m → m ≤ 25 → q_Mo_wordLength_2 k p j M = some (zq_rfn (fun i => zq_wdB (zq_mby M i)) (p + 25) (p + j) - p, M)
  | 0, k + 1, j => by
    intro _ hj _
    have h1 := h.1; have h2 := h.2.1
    rw [q_Mo_wordLength_2, zq_w32i (z := j) (by omega) (by omega), zq_w32i (z := M.m_length) (by omega) (by omega), zq_w32i (z := p + j) (by omega) (by omega), if_pos (show 25 ≤ j by omega), zq_rfn_stop (by omega), ite_self]
    congr 2; omega
  | m + 1, k + 1, j => by
    intro hk hj hm
    have h1 := h.1; have h2 := h.2.1
    rw [q_Mo_wordLength_2, zq_w32i (z := j) (by omega) (by omega), zq_w32i (z := M.m_length) (by omega) (by omega), zq_w32i (z := p + j) (by omega) (by omega)]
    by_cases c1 : M.m_length ≤ p + j
    · rw [if_pos c1, zq_rfn_stop (P := fun i => zq_wdB (zq_mby M i)) (fun _ => by
        show zq_wdB (zq_mby M (p + j)) = false
        rw [show zq_mby M (p + j) = -1 from if_neg (by omega)]; decide)]
      congr 2; omega
    · have hb := h.2.2 (p + j)
      have em : zq_mby M (p + j) = M.m_tape (p + j) % 256 := if_pos ⟨by omega, by omega⟩
      have ew : zq_wdB (M.m_tape (p + j)) = zq_wdB (zq_mby M (p + j)) := by
        rw [em]
        by_cases c3 : zq_wdB (M.m_tape (p + j)) = true
        · have := (zq_wdB_iff _).mp c3
          rw [show M.m_tape (p + j) % 256 = M.m_tape (p + j) by omega]
        · by_cases c4 : zq_wdB (M.m_tape (p + j) % 256) = true
          · have := (zq_wdB_iff _).mp c4
            rw [show M.m_tape (p + j) = M.m_tape (p + j) % 256 by omega] at c3
            exact absurd c4 c3
          · simp at c3 c4; rw [c3, c4]
      rw [if_neg c1, if_neg (by omega), if_pos ⟨by omega, by omega⟩]
      refine (zq_mb1_eq (zq_e_mIsWord (b := M.m_tape (p + j)) ⟨by omega, by omega⟩)).trans ?_
      rw [zq_w32_b]; simp only [zq_b_eq0]
      rw [ew]
      by_cases c2 : zq_wdB (zq_mby M (p + j)) = false
      · rw [if_pos c2, zq_rfn_stop (P := fun i => zq_wdB (zq_mby M i)) (fun _ => c2)]
        congr 2; omega
      · rw [if_neg c2, zq_rfn_step (P := fun i => zq_wdB (zq_mby M i)) (by omega) (by simpa using c2), Int.add_assoc]
        exact zq_E_wordLength h hp m k (j + 1) (by omega) (by omega) (by omega)
  | m, 0, j => by omega
set_option maxRecDepth 100000 in
theorem zq_e_wordLength {M : MS} (h : zq_moI M) {p : Int} (hp : 0 ≤ p ∧ p ≤ 1000000) : s_Mo_wordLength M p = some (zq_wdE (zq_mby M) 25 p - p, M) := by
  have := zq_E_wordLength h hp 25 fU 0 (zq_fU_gt (by omega)) (by omega) (by omega)
  rw [Int.add_zero] at this; exact this
/-! ===== rows of bytes, and their order ===== -/
set_option maxRecDepth 100000 in
def zq_slF (T : Int → Int) : Nat → Int → List Int
  | 0, _ => []
  | m + 1, p => T p :: zq_slF T m (p + 1)
set_option maxRecDepth 100000 in
def zq_sl (T : Int → Int) (p q : Int) : List Int := zq_slF T (q - p).toNat p
set_option maxRecDepth 100000 in
theorem zq_sl_nil {T : Int → Int} {p q : Int} (h : q ≤ p) : zq_sl T p q = [] := by
  unfold zq_sl; rw [show (q - p).toNat = 0 by omega]; rfl
set_option maxRecDepth 100000 in
theorem zq_sl_cons {T : Int → Int} {p q : Int} (h : p < q) : zq_sl T p q = T p :: zq_sl T (p + 1) q := by
  unfold zq_sl
  obtain ⟨m, hm⟩ : ∃ m, (q - p).toNat = m + 1 := ⟨(q - p).toNat - 1, by omega⟩
  rw [hm, zq_slF, show (q - (p + 1)).toNat = m by omega]
set_option maxRecDepth 100000 in
theorem zq_slF_len (T : Int → Int) : ∀ (m : Nat) (p : Int), (zq_slF T m p).length = m
  | 0, _ => rfl
  | m + 1, p => by rw [zq_slF, List.length_cons, zq_slF_len]
set_option maxRecDepth 100000 in
theorem zq_sl_len (T : Int → Int) (p q : Int) : (zq_sl T p q).length = (q - p).toNat := zq_slF_len T _ p
set_option maxRecDepth 100000 in
theorem zq_slF_get (T : Int → Int) : ∀ (m : Nat) (p : Int) (i : Nat), i < m → (zq_slF T m p)[i]? = some (T (p + i))
  | 0, _, _, h => by omega
  | m + 1, p, 0, _ => by rw [zq_slF]; simp
  | m + 1, p, i + 1, h => by
    rw [zq_slF, List.getElem?_cons_succ, zq_slF_get T m (p + 1) i (by omega)]
    congr 2; omega
set_option maxRecDepth 100000 in
theorem zq_slF_congr {T T' : Int → Int} : ∀ (m : Nat) (p p' : Int), (∀ i : Nat, i < m → T (p + i) = T' (p' + i)) → zq_slF T m p = zq_slF T' m p'
  | 0, _, _, _ => rfl
  | m + 1, p, p', h => by
    rw [zq_slF, zq_slF]
    have h0 := h 0 (by omega)
    simp at h0
    rw [h0, zq_slF_congr m (p + 1) (p' + 1) (fun i hi => by
      have := h (i + 1) (by omega)
      rw [show p + 1 + (i : Int) = p + ((i + 1 : Nat) : Int) by omega, show p' + 1 + (i : Int) = p' + ((i + 1 : Nat) : Int) by omega]; exact this)]
set_option maxRecDepth 100000 in
theorem zq_slF_inj {T T' : Int → Int} : ∀ (m : Nat) (p p' : Int), zq_slF T m p = zq_slF T' m p' → ∀ i : Nat, i < m → T (p + i) = T' (p' + i)
  | 0, _, _, _, i, hi => by omega
  | m + 1, p, p', h, 0, _ => by rw [zq_slF, zq_slF] at h; simp at h; simpa using h.1
  | m + 1, p, p', h, i + 1, hi => by
    rw [zq_slF, zq_slF] at h; simp at h
    have := zq_slF_inj m (p + 1) (p' + 1) h.2 i (by omega)
    rw [show p + ((i + 1 : Nat) : Int) = p + 1 + (i : Int) by omega, show p' + ((i + 1 : Nat) : Int) = p' + 1 + (i : Int) by omega]; exact this
set_option maxRecDepth 100000 in
def zq_lexc : List Int → List Int → Int
  | [], [] => 0
  | [], _ :: _ => -1
  | _ :: _, [] => 1
  | x :: xs, y :: ys => if x < y then -1 else if x = y then zq_lexc xs ys else 1
set_option maxRecDepth 100000 in
theorem zq_lexc_R : ∀ (a b : List Int), zq_lexc a b = -1 ∨ zq_lexc a b = 0 ∨ zq_lexc a b = 1
  | [], [] => by simp [zq_lexc]
  | [], _ :: _ => by simp [zq_lexc]
  | _ :: _, [] => by simp [zq_lexc]
  | x :: xs, y :: ys => by
    rw [zq_lexc]; split
    · simp
    · split
      · exact zq_lexc_R xs ys
      · simp
set_option maxRecDepth 100000 in
theorem zq_lexc_0 : ∀ (a b : List Int), zq_lexc a b = 0 ↔ a = b
  | [], [] => by simp [zq_lexc]
  | [], _ :: _ => by simp [zq_lexc]
  | _ :: _, [] => by simp [zq_lexc]
  | x :: xs, y :: ys => by
    rw [zq_lexc]; split
    · simp; omega
    · split
      · rename_i h; subst h; simp [zq_lexc_0 xs ys]
      · simp; intro h; omega
set_option maxRecDepth 100000 in
theorem zq_lexc_sym : ∀ (a b : List Int), zq_lexc a b = - zq_lexc b a
  | [], [] => by simp [zq_lexc]
  | [], _ :: _ => by simp [zq_lexc]
  | _ :: _, [] => by simp [zq_lexc]
  | x :: xs, y :: ys => by
    rw [zq_lexc, zq_lexc]
    by_cases h1 : x < y
    · rw [if_pos h1, if_neg (by omega), if_neg (by omega)]
    · rw [if_neg h1]
      by_cases h2 : x = y
      · rw [if_pos h2, if_neg (by omega), if_pos h2.symm]; exact zq_lexc_sym xs ys
      · rw [if_neg h2, if_pos (by omega)]; rfl
set_option maxRecDepth 100000 in
theorem zq_lexc_tr : ∀ (a b c : List Int), zq_lexc a b = -1 → zq_lexc b c = -1 → zq_lexc a c = -1
  | [], [], _ => by simp [zq_lexc]
  | [], _ :: _, [] => by simp [zq_lexc]
  | [], _ :: _, _ :: _ => by simp [zq_lexc]
  | _ :: _, [], _ => by simp [zq_lexc]
  | _ :: _, _ :: _, [] => by simp [zq_lexc]
  | x :: xs, y :: ys, z :: zs => by
    rw [zq_lexc, zq_lexc, zq_lexc]
    intro h1 h2
    by_cases c1 : x < y
    · by_cases c2 : y < z
      · rw [if_pos (by omega)]
      · rw [if_neg c2] at h2
        by_cases c3 : y = z
        · rw [if_pos (by omega)]
        · rw [if_neg c3] at h2; omega
    · rw [if_neg c1] at h1
      by_cases c2 : x = y
      · rw [if_pos c2] at h1
        by_cases c3 : y < z
        · rw [if_pos (by omega)]
        · rw [if_neg c3] at h2
          by_cases c4 : y = z
          · rw [if_pos c4] at h2
            rw [if_neg (by omega), if_pos (by omega)]; exact zq_lexc_tr xs ys zs h1 h2
          · rw [if_neg c4] at h2; omega
      · rw [if_neg c2] at h1; omega
set_option maxRecDepth 100000 in
theorem zq_E_compare {c : CW} {S : WS} (h : zq_tpI c S) {a b n m : Int} (ha : 0 ≤ a ∧ a ≤ 1000000) (hb : 0 ≤ b ∧ b ≤ 1000000) (hn : 0 ≤ n ∧ n ≤ 1000000) (hm : 0 ≤ m ∧ m ≤ 1000000) : ∀ (f : Nat) (k : Int), 0 ≤ k → k ≤ n → k ≤ m → (n - k).toNat < f → q_Tp_compare_14 c f a b n m k S = some (zq_lexc (zq_sl (zq_bt S) (a + k) (a + n)) (zq_sl (zq_bt S) (b + k) (b + m)), S)
  | 0, k => by omega
  | f + 1, k => by
    intro h0 h1 h2 hf
    have b1 := zq_bt_R S (a + k)
    have b2 := zq_bt_R S (b + k)
    have fin : n ≤ k ∨ m ≤ k → q_Tp_compare_63 c n m S = some (zq_lexc (zq_sl (zq_bt S) (a + k) (a + n)) (zq_sl (zq_bt S) (b + k) (b + m)), S) := fun hh => by
      unfold q_Tp_compare_63
      rw [zq_w32i (z := n) (by omega) (by omega), zq_w32i (z := m) (by omega) (by omega)]
      by_cases c1 : n ≤ k
      · rw [zq_sl_nil (by omega)]
        by_cases c2 : m ≤ k
        · rw [zq_sl_nil (T := zq_bt S) (p := b + k) (by omega)]
          unfold cmpI; rw [if_neg (by omega), if_pos (by omega)]; rfl
        · rw [zq_sl_cons (T := zq_bt S) (p := b + k) (by omega)]
          unfold cmpI; rw [if_pos (by omega)]; rfl
      · rw [zq_sl_cons (T := zq_bt S) (p := a + k) (by omega), zq_sl_nil (T := zq_bt S) (p := b + k) (by omega)]
        unfold cmpI; rw [if_neg (by omega), if_neg (by omega)]; rfl
    rw [q_Tp_compare_14, zq_w32i (z := n) (by omega) (by omega), zq_w32i (z := m) (by omega) (by omega), zq_w32i (z := k) (by omega) (by omega)]
    by_cases c1 : n ≤ k
    · rw [if_pos c1]; exact fin (Or.inl c1)
    · rw [if_neg c1]
      by_cases c2 : m ≤ k
      · rw [if_pos c2]; exact fin (Or.inr c2)
      · rw [if_neg c2]
        refine (zq_mb2_eq (zq_e_byteAt h (i := a + k) ⟨by omega, by omega⟩)).trans ?_
        refine (zq_mb2_eq (zq_e_byteAt h (i := b + k) ⟨by omega, by omega⟩)).trans ?_
        rw [zq_w32i (z := zq_bt S (a + k)) (by omega) (by omega), zq_w32i (z := zq_bt S (b + k)) (by omega) (by omega)]
        have r := cmpI_R (zq_bt S (a + k)) (zq_bt S (b + k))
        rw [zq_w32i (z := cmpI (zq_bt S (a + k)) (zq_bt S (b + k))) (by omega) (by omega)]
        rw [zq_sl_cons (T := zq_bt S) (p := a + k) (by omega), zq_sl_cons (T := zq_bt S) (p := b + k) (by omega), zq_lexc]
        by_cases c3 : zq_bt S (a + k) < zq_bt S (b + k)
        · rw [if_pos c3, show cmpI (zq_bt S (a + k)) (zq_bt S (b + k)) = -1 from if_pos c3, if_neg (by decide)]
        · rw [if_neg c3]
          by_cases c4 : zq_bt S (a + k) = zq_bt S (b + k)
          · rw [if_pos c4, if_pos (show cmpI (zq_bt S (a + k)) (zq_bt S (b + k)) = 0 from by unfold cmpI; rw [if_neg c3, if_pos c4]), Int.add_assoc, Int.add_assoc]
            exact zq_E_compare h ha hb hn hm f (k + 1) (by omega) (by omega) (by omega) (by omega)
          · rw [if_neg c4, show cmpI (zq_bt S (a + k)) (zq_bt S (b + k)) = 1 from by unfold cmpI; rw [if_neg c3, if_neg c4], if_neg (by decide)]
set_option maxRecDepth 100000 in
theorem zq_e_tcmp {c : CW} {S : WS} (h : zq_tpI c S) {a a' b b' : Int} (ha : 0 ≤ a ∧ a ≤ a' ∧ a' ≤ 900000) (hb : 0 ≤ b ∧ b ≤ b' ∧ b' ≤ 900000) : s_Tp_compare c S a a' b b' = some (zq_lexc (zq_sl (zq_bt S) a a') (zq_sl (zq_bt S) b b'), S) := by
  have := zq_E_compare h (a := a) (b := b) (n := a' - a) (m := b' - b) (by omega) (by omega) (by omega) (by omega) fU 0 (by omega) (by omega) (by omega) (zq_fU_gt (by omega))
  rw [show a + (a' - a) = a' by omega, show b + (b' - b) = b' by omega, Int.add_zero, Int.add_zero] at this
  exact this
set_option maxRecDepth 100000 in
theorem zq_E_mCompare {M : MS} (h : zq_moI M) {a b n m : Int} (ha : 0 ≤ a) (hb : 0 ≤ b) (hn : 0 ≤ n ∧ a + n ≤ M.m_length) (hm : 0 ≤ m ∧ b + m ≤ M.m_length) (pa : ∀ i, 0 ≤ i → i < n → 0 ≤ M.m_tape (a + i)) (pb : ∀ i, 0 ≤ i → i < m → 0 ≤ M.m_tape (b + i)) : ∀ (f : Nat) (k : Int), 0 ≤ k → k ≤ n → k ≤ m → (n - k).toNat < f → ∃ r, q_Mo_compare_3 f a n b m k M = some (r, M) ∧ -100000 ≤ r ∧ r ≤ 100000 ∧ (r < 0 ↔ zq_lexc (zq_sl (zq_mby M) (a + k) (a + n)) (zq_sl (zq_mby M) (b + k) (b + m)) = -1) ∧ (r = 0 ↔ zq_lexc (zq_sl (zq_mby M) (a + k) (a + n)) (zq_sl (zq_mby M) (b + k) (b + m)) = 0)
  | 0, k => by omega
  | f + 1, k => by
    intro h0 h1 h2 hf
    have hl := h.2.1
    have fin : n ≤ k ∨ m ≤ k → ∃ r, q_Mo_compare_63 n m M = some (r, M) ∧ -100000 ≤ r ∧ r ≤ 100000 ∧ (r < 0 ↔ zq_lexc (zq_sl (zq_mby M) (a + k) (a + n)) (zq_sl (zq_mby M) (b + k) (b + m)) = -1) ∧ (r = 0 ↔ zq_lexc (zq_sl (zq_mby M) (a + k) (a + n)) (zq_sl (zq_mby M) (b + k) (b + m)) = 0) := fun hh => by
      refine ⟨n - m, rfl, by omega, by omega, ?_⟩
      by_cases c1 : n ≤ k
      · rw [zq_sl_nil (by omega)]
        by_cases c2 : m ≤ k
        · rw [zq_sl_nil (T := zq_mby M) (p := b + k) (by omega)]; simp [zq_lexc]; omega
        · rw [zq_sl_cons (T := zq_mby M) (p := b + k) (by omega)]; simp [zq_lexc]; omega
      · rw [zq_sl_cons (T := zq_mby M) (p := a + k) (by omega), zq_sl_nil (T := zq_mby M) (p := b + k) (by omega)]; simp [zq_lexc]; omega
    rw [q_Mo_compare_3, zq_w32i (z := n) (by omega) (by omega), zq_w32i (z := m) (by omega) (by omega), zq_w32i (z := k) (by omega) (by omega)]
    by_cases c1 : n ≤ k
    · rw [if_pos c1]; exact fin (Or.inl c1)
    · rw [if_neg c1]
      by_cases c2 : m ≤ k
      · rw [if_pos c2]; exact fin (Or.inr c2)
      · have t1 := h.2.2 (a + k); have t2 := h.2.2 (b + k)
        have p1 := pa k h0 (by omega); have p2 := pb k h0 (by omega)
        have e1 : zq_mby M (a + k) = M.m_tape (a + k) := by unfold zq_mby; rw [if_pos ⟨by omega, by omega⟩]; omega
        have e2 : zq_mby M (b + k) = M.m_tape (b + k) := by unfold zq_mby; rw [if_pos ⟨by omega, by omega⟩]; omega
        rw [if_neg c2, if_pos ⟨by omega, by omega⟩, if_pos ⟨by omega, by omega⟩, zq_w32i (z := M.m_tape (a + k)) (by omega) (by omega), zq_w32i (z := M.m_tape (b + k)) (by omega) (by omega)]
        rw [zq_sl_cons (T := zq_mby M) (p := a + k) (by omega), zq_sl_cons (T := zq_mby M) (p := b + k) (by omega), zq_lexc, e1, e2]
        by_cases c4 : M.m_tape (a + k) = M.m_tape (b + k)
        · clear fin
          rw [if_pos c4, if_neg (by omega), if_pos c4, Int.add_assoc, Int.add_assoc]
          exact zq_E_mCompare h ha hb hn hm pa pb f (k + 1) (by omega) (by omega) (by omega) (by omega)
        · rw [if_neg c4, if_pos ⟨by omega, by omega⟩, if_pos ⟨by omega, by omega⟩]
          refine ⟨_, rfl, by omega, by omega, ?_⟩
          by_cases c5 : M.m_tape (a + k) < M.m_tape (b + k)
          · rw [if_pos c5]; simp; omega
          · rw [if_neg c5, if_neg c4]; simp; omega
set_option maxRecDepth 100000 in
theorem zq_e_mcmp {M : MS} (h : zq_moI M) {a b n m : Int} (ha : 0 ≤ a) (hb : 0 ≤ b) (hn : 0 ≤ n ∧ a + n ≤ M.m_length) (hm : 0 ≤ m ∧ b + m ≤ M.m_length) (pa : ∀ i, 0 ≤ i → i < n → 0 ≤ M.m_tape (a + i)) (pb : ∀ i, 0 ≤ i → i < m → 0 ≤ M.m_tape (b + i)) : ∃ r, s_Mo_compare M a n b m = some (r, M) ∧ -100000 ≤ r ∧ r ≤ 100000 ∧ (r < 0 ↔ zq_lexc (zq_sl (zq_mby M) a (a + n)) (zq_sl (zq_mby M) b (b + m)) = -1) ∧ (r = 0 ↔ zq_lexc (zq_sl (zq_mby M) a (a + n)) (zq_sl (zq_mby M) b (b + m)) = 0) := by
  have hl := h.2.1
  have := zq_E_mCompare h ha hb hn hm pa pb fU 0 (by omega) (by omega) (by omega) (zq_fU_gt (by omega))
  rw [Int.add_zero, Int.add_zero] at this
  exact this
/-! ===== the labels of a series' text: name, sign, end, by rising names ===== -/
set_option maxRecDepth 100000 in
abbrev zq_L3 : Type := Int × Int × Int
set_option maxRecDepth 100000 in
def zq_nmL (T : Int → Int) (l : zq_L3) : List Int := zq_sl T l.1 l.2.1
set_option maxRecDepth 100000 in
def zq_insL (T : Int → Int) (x : zq_L3) : List zq_L3 → List zq_L3
  | [] => [x]
  | y :: ys => if zq_lexc (zq_nmL T x) (zq_nmL T y) = -1 then x :: y :: ys else y :: zq_insL T x ys
set_option maxRecDepth 100000 in
/-- where a name goes: none if it is there -/
def zq_plcL (T : Int → Int) (a s : Int) : List zq_L3 → Option Nat
  | [] => some 0
  | y :: ys => if zq_lexc (zq_sl T a s) (zq_nmL T y) = 0 then none else if zq_lexc (zq_sl T a s) (zq_nmL T y) = -1 then some 0 else (zq_plcL T a s ys).map (· + 1)
set_option maxRecDepth 100000 in
def zq_lrs (S : WS) (f g e : Int → Int) (n : Int) : WS := WS.w_lr_labels (WS.w_lr_valueEnd (WS.w_lr_signAt (WS.w_lr_nameAt S f) g) e) n
set_option maxRecDepth 100000 in
theorem zq_lrs_id (S : WS) : zq_lrs S S.lr_nameAt S.lr_signAt S.lr_valueEnd S.lr_labels = S := rfl
set_option maxRecDepth 100000 in
def zq_shA (f : Int → Int) (i n : Int) : Int → Int := fun j => if i < j ∧ j ≤ n then f (j - 1) else f j
set_option maxRecDepth 100000 in
def zq_inA (f : Int → Int) (p n x : Int) : Int → Int := fun j => if j = p then x else if p < j ∧ j ≤ n then f (j - 1) else f j
set_option maxRecDepth 100000 in
theorem zq_sh_step (f : Int → Int) (i n : Int) (h : i ≤ n) : aU (zq_shA f i n) i ((zq_shA f i n) (i - 1)) = zq_shA f (i - 1) n := by
  funext j; unfold aU zq_shA
  by_cases c : j = i
  · subst c; rw [if_pos rfl, if_neg (by omega), if_pos (by omega)]
  · rw [if_neg c]
    by_cases c2 : i < j ∧ j ≤ n
    · rw [if_pos c2, if_pos (by omega)]
    · rw [if_neg c2, if_neg (by omega)]
set_option maxRecDepth 100000 in
theorem zq_sh_end (f : Int → Int) (p n x : Int) : aU (zq_shA f p n) p x = zq_inA f p n x := rfl
set_option maxRecDepth 100000 in
theorem zq_sh_0 (f : Int → Int) (n : Int) : zq_shA f n n = f := by
  funext j; unfold zq_shA; rw [if_neg (by omega)]
set_option maxRecDepth 100000 in
theorem zq_E_insert {c : CW} (S : WS) (f g e : Int → Int) (p a s b n : Int) (hp : 0 ≤ p) (hn : n < 6) : ∀ (k : Nat) (i : Int), p ≤ i → i ≤ n → (i - p).toNat < k → q_LR_insert_28 c k p a s b i (zq_lrs S (zq_shA f i n) (zq_shA g i n) (zq_shA e i n) n) = some ((), zq_lrs S (zq_inA f p n a) (zq_inA g p n s) (zq_inA e p n b) (n + 1))
  | 0, i => by omega
  | k + 1, i => by
    intro h0 h1 hk
    rw [q_LR_insert_28, zq_w32i (z := i) (by omega) (by omega), zq_w32i (z := p) (by omega) (by omega)]
    by_cases c1 : i ≤ p
    · have : i = p := by omega
      subst this
      rw [if_pos c1, if_pos ⟨by omega, by omega⟩, if_pos ⟨by omega, by omega⟩, if_pos ⟨by omega, by omega⟩]; rfl
    · rw [if_neg c1, if_pos ⟨by omega, by omega⟩, if_pos ⟨by omega, by omega⟩, if_pos ⟨by omega, by omega⟩, if_pos ⟨by omega, by omega⟩, if_pos ⟨by omega, by omega⟩, if_pos ⟨by omega, by omega⟩]
      have := zq_E_insert (c := c) S f g e p a s b n hp hn k (i - 1) (by omega) (by omega) (by omega)
      rw [← zq_sh_step f i n h1, ← zq_sh_step g i n h1, ← zq_sh_step e i n h1] at this
      exact this
set_option maxRecDepth 100000 in
theorem zq_e_insert {c : CW} {S : WS} {p a s b : Int} (hp : 0 ≤ p ∧ p ≤ S.lr_labels) (hn : S.lr_labels < 6) : s_LR_insert c S p a s b = some ((), zq_lrs S (zq_inA S.lr_nameAt p S.lr_labels a) (zq_inA S.lr_signAt p S.lr_labels s) (zq_inA S.lr_valueEnd p S.lr_labels b) (S.lr_labels + 1)) := by
  unfold s_LR_insert
  rw [zq_w32i (z := p) (by omega) (by omega), zq_w32i (z := S.lr_labels) (by omega) (by omega), if_neg (by omega), if_neg (by omega), if_pos hn]
  have := zq_E_insert (c := c) S S.lr_nameAt S.lr_signAt S.lr_valueEnd p a s b S.lr_labels hp.1 hn fU S.lr_labels hp.2 (by omega) (zq_fU_gt (by omega))
  rw [zq_sh_0, zq_sh_0, zq_sh_0, zq_lrs_id] at this
  exact this
set_option maxRecDepth 100000 in
/-- the reader's rows hold these labels -/
def zq_lrH (S : WS) (ss : List zq_L3) : Prop := S.lr_labels = (ss.length : Int) ∧ ∀ (i : Nat) (l : zq_L3), ss[i]? = some l → S.lr_nameAt i = l.1 ∧ S.lr_signAt i = l.2.1 ∧ S.lr_valueEnd i = l.2.2
set_option maxRecDepth 100000 in
def zq_okL (n : Int) (l : zq_L3) : Prop := 0 ≤ l.1 ∧ l.1 < l.2.1 ∧ l.2.1 < l.2.2 ∧ l.2.2 ≤ n
set_option maxRecDepth 100000 in
theorem zq_E_placeFor {c : CW} {S : WS} (h : zq_tpI c S) {a s : Int} (ha : 0 ≤ a ∧ a ≤ s ∧ s ≤ 100000) (all : List zq_L3) (hH : zq_lrH S all) (h6 : all.length ≤ 6) (hok : ∀ l ∈ all, zq_okL S.tp_size l) : ∀ (k : Nat) (i : Nat) (ss : List zq_L3), all.drop i = ss → i ≤ all.length → (all.length - i) < k → q_LR_placeFor_14 c k a s i S = some (match zq_plcL (zq_bt S) a s ss with | none => -1 | some j => (i : Int) + j, S)
  | 0, i, ss => by omega
  | k + 1, i, ss => by
    intro hd hi hk
    have hs := h.2.1; have hs2 := h.2.2
    rw [q_LR_placeFor_14, hH.1, zq_w32i (z := (i : Int)) (by omega) (by omega), zq_w32i (z := (all.length : Int)) (by omega) (by omega)]
    cases ss with
    | nil =>
      have : all.length ≤ i := by rw [List.drop_eq_nil_iff] at hd; exact hd
      rw [if_pos (by omega), zq_plcL]; simp; omega
    | cons y ys =>
      have hlt : i < all.length := by
        by_cases z : i < all.length
        · exact z
        · rw [List.drop_eq_nil_of_le (by omega)] at hd; cases hd
      have hy : all[i]? = some y := by
        have : (all.drop i)[0]? = some y := by rw [hd]; rfl
        rw [List.getElem?_drop] at this; simpa using this
      have hys : all.drop (i + 1) = ys := by
        rw [← List.drop_drop, hd]; rfl
      obtain ⟨e1, e2, e3⟩ := hH.2 i y hy
      have o := hok y (List.mem_of_getElem? hy)
      unfold zq_okL at o
      rw [if_neg (by omega), if_pos ⟨by omega, by omega⟩, if_pos ⟨by omega, by omega⟩, e1, e2]
      refine (zq_mb2_eq (zq_e_tcmp h (by omega) (by omega))).trans ?_
      have r := zq_lexc_R (zq_sl (zq_bt S) a s) (zq_nmL (zq_bt S) y)
      rw [zq_plcL]
      show (if w32 (zq_lexc (zq_sl (zq_bt S) a s) (zq_nmL (zq_bt S) y)) = 0 then _ else _) = _
      rw [zq_w32i (by omega) (by omega)]
      by_cases c1 : zq_lexc (zq_sl (zq_bt S) a s) (zq_nmL (zq_bt S) y) = 0
      · rw [if_pos c1, if_pos c1]
      · rw [if_neg c1, if_neg c1]
        show (if 0 ≤ w32 (zq_lexc (zq_sl (zq_bt S) a s) (zq_nmL (zq_bt S) y)) then _ else _) = _
        rw [zq_w32i (by omega) (by omega)]
        by_cases c2 : zq_lexc (zq_sl (zq_bt S) a s) (zq_nmL (zq_bt S) y) = -1
        · rw [if_neg (by omega), if_pos c2]; simp
        · rw [if_pos (by omega), if_neg c2]
          have ih := zq_E_placeFor h ha all hH h6 hok k (i + 1) ys hys (by omega) (by omega)
          have ec : ((i : Int) + 1) = ((i + 1 : Nat) : Int) := by omega
          rw [ec, ih]
          cases zq_plcL (zq_bt S) a s ys with
          | none => rfl
          | some j =>
            show some (((i + 1 : Nat) : Int) + (j : Int), S) = some ((i : Int) + ((j + 1 : Nat) : Int), S)
            rw [show ((i + 1 : Nat) : Int) + (j : Int) = (i : Int) + ((j + 1 : Nat) : Int) by omega]
set_option maxRecDepth 100000 in
/-- reads labels from a place on; error: code and place of the fault -/
def zq_rdL (T : Int → Int) (n : Int) : Nat → Int → List zq_L3 → Except (Int × Int) (List zq_L3)
  | 0, _, _ => .error (0, 0)
  | t + 1, a, ss =>
    if zq_wdE T 24 a = a ∨ T (zq_wdE T 24 a) ≠ 61 then .error (7, zq_wdE T 24 a) else
    match (if 6 ≤ ss.length then none else zq_plcL T a (zq_wdE T 24 a) ss) with
    | none => .error (8, a)
    | some j =>
      if zq_wdE T 24 (zq_wdE T 24 a + 1) = zq_wdE T 24 a + 1 then .error (7, zq_wdE T 24 a + 1) else
      if zq_wdE T 24 (zq_wdE T 24 a + 1) = n then .ok (ss.take j ++ (a, zq_wdE T 24 a, zq_wdE T 24 (zq_wdE T 24 a + 1)) :: ss.drop j) else
      if T (zq_wdE T 24 (zq_wdE T 24 a + 1)) ≠ 44 then .error (7, zq_wdE T 24 (zq_wdE T 24 a + 1)) else
      zq_rdL T n t (zq_wdE T 24 (zq_wdE T 24 a + 1) + 1) (ss.take j ++ (a, zq_wdE T 24 a, zq_wdE T 24 (zq_wdE T 24 a + 1)) :: ss.drop j)
set_option maxRecDepth 100000 in
theorem zq_plcL_le {T : Int → Int} {a s : Int} : ∀ {ss : List zq_L3} {j : Nat}, zq_plcL T a s ss = some j → j ≤ ss.length
  | [], j, h => by rw [zq_plcL] at h; cases h; simp
  | y :: ys, j, h => by
    rw [zq_plcL] at h
    split at h
    · cases h
    · split at h
      · cases h; simp
      · cases hq : zq_plcL T a s ys with
        | none => rw [hq] at h; cases h
        | some i => rw [hq] at h; cases h; have := zq_plcL_le hq; simp; omega
set_option maxRecDepth 100000 in
/-- one past the last byte at most -/
theorem zq_wdE_lt {T : Int → Int} {n : Int} (hT : zq_tpT T n) {k p : Int} (hp : 0 ≤ p) (hn : p ≤ n) (hk : 0 ≤ k) : zq_wdE T k p ≤ n := by
  by_cases c : zq_wdE T k p ≤ n
  · exact c
  · have h := zq_wdE_le T k p hk
    have := zq_rfn_all (P := fun j => zq_wdB (T j)) (n := p + k) (i := p) (j := n) hn (by unfold zq_wdE at c; omega)
    rw [(hT.2 n).mpr (by omega)] at this
    exact absurd this (by decide)
set_option maxRecDepth 100000 in
theorem zq_lrH_ins {S : WS} {ss : List zq_L3} (hH : zq_lrH S ss) {j : Nat} (hj : j ≤ ss.length) (x : zq_L3) : zq_lrH (zq_lrs S (zq_inA S.lr_nameAt j S.lr_labels x.1) (zq_inA S.lr_signAt j S.lr_labels x.2.1) (zq_inA S.lr_valueEnd j S.lr_labels x.2.2) (S.lr_labels + 1)) (ss.take j ++ x :: ss.drop j) := by
  obtain ⟨h1, h2⟩ := hH
  constructor
  · show S.lr_labels + 1 = _
    rw [h1]; simp; omega
  · intro i l hl
    show zq_inA S.lr_nameAt j S.lr_labels x.1 i = l.1 ∧ zq_inA S.lr_signAt j S.lr_labels x.2.1 i = l.2.1 ∧ zq_inA S.lr_valueEnd j S.lr_labels x.2.2 i = l.2.2
    unfold zq_inA
    by_cases c1 : i < j
    · rw [List.getElem?_append_left (by simp; omega), List.getElem?_take, if_pos c1] at hl
      obtain ⟨a, b, c⟩ := h2 i l hl
      rw [if_neg (by omega), if_neg (by omega), if_neg (by omega), if_neg (by omega), if_neg (by omega), if_neg (by omega)]
      exact ⟨a, b, c⟩
    · rw [List.getElem?_append_right (by simp; omega)] at hl
      have el : (ss.take j).length = j := by simp; omega
      rw [el] at hl
      by_cases c2 : i = j
      · subst c2
        rw [Nat.sub_self] at hl
        cases hl
        rw [if_pos rfl, if_pos rfl, if_pos rfl]; exact ⟨rfl, rfl, rfl⟩
      · obtain ⟨m, hm⟩ : ∃ m, i - j = m + 1 := ⟨i - j - 1, by omega⟩
        rw [hm, List.getElem?_cons_succ, List.getElem?_drop] at hl
        have hlt : j + m < ss.length := (List.getElem?_eq_some_iff.mp hl).1
        obtain ⟨a, b, c⟩ := h2 (j + m) l hl
        have e : (i : Int) - 1 = ((j + m : Nat) : Int) := by omega
        rw [if_neg (by omega), if_pos ⟨by omega, by omega⟩, if_neg (by omega), if_pos ⟨by omega, by omega⟩, if_neg (by omega), if_pos ⟨by omega, by omega⟩, e]
        exact ⟨a, b, c⟩
set_option maxRecDepth 100000 in
theorem zq_e_refuse (c : CW) (S : WS) (a b : Int) : s_LR_refuse c S a b = some (-1, WS.w_lr_faultPlace (WS.w_lr_faultCode S a) b) := rfl
set_option maxRecDepth 100000 in
def zq_lrf (S : WS) (a b : Int) : WS := WS.w_lr_faultPlace (WS.w_lr_faultCode S a) b
set_option maxRecDepth 100000 in
theorem zq_E_read {c : CW} : ∀ (t k : Nat) (a : Int) (S : WS) (ss : List zq_L3), zq_tpI c S → zq_lrH S ss → ss.length + t = 7 → ss.length ≤ 6 → (∀ l ∈ ss, zq_okL S.tp_size l) → 0 ≤ a → a ≤ S.tp_size → t < k →
    (∀ ss', zq_rdL (zq_bt S) S.tp_size t a ss = .ok ss' → ∃ f g e, zq_lrH (zq_lrs S f g e ss'.length) ss' ∧ (∀ l ∈ ss', zq_okL S.tp_size l) ∧ ss'.length ≤ 6 ∧ q_LR_read_19 c k a ss.length S = mb2 (s_LR_compose c (zq_lrs S f g e ss'.length)) (fun _ S18 => some (1, S18))) ∧
    (∀ q, zq_rdL (zq_bt S) S.tp_size t a ss = .error q → ∃ f g e m, q_LR_read_19 c k a ss.length S = some (0, zq_lrf (zq_lrs S f g e m) q.1 q.2))
  | 0, k, a, S, ss => by omega
  | t + 1, 0, a, S, ss => by omega
  | t + 1, k + 1, a, S, ss => by
    intro h hH hlen h6 hok ha0 ha1 hk
    have h1 := h.1; have h2 := h.2.1; have h3 := h.2.2
    have hT := zq_bt_T h
    have hw := zq_wdE_le (zq_bt S) 24 a (by omega)
    have hw1 := zq_wdE_lt hT (k := 24) ha0 ha1 (by omega)
    rw [q_LR_read_19, zq_w32i (z := ((ss.length : Nat) : Int)) (by omega) (by omega), if_neg (by omega), zq_rdL]
    generalize hg : zq_wdE (zq_bt S) 24 a = sg at *
    have zq_bsg := zq_bt_R S sg
    -- the label
    have rl : ∀ F : Int → WS → Option (Int × WS), mb2 (s_LR_readLabel c S a) F = if sg = a ∨ zq_bt S sg ≠ 61 then F (-1) (zq_lrf S 7 sg) else
        (match (if 6 ≤ ss.length then none else zq_plcL (zq_bt S) a sg ss) with
        | none => F (-1) (zq_lrf S 8 a)
        | some j => if zq_wdE (zq_bt S) 24 (sg + 1) = sg + 1 then F (-1) (zq_lrf S 7 (sg + 1)) else F (zq_wdE (zq_bt S) 24 (sg + 1)) (zq_lrs S (zq_inA S.lr_nameAt j S.lr_labels a) (zq_inA S.lr_signAt j S.lr_labels sg) (zq_inA S.lr_valueEnd j S.lr_labels (zq_wdE (zq_bt S) 24 (sg + 1))) (S.lr_labels + 1))) := by
      intro F
      have ew : s_LR_wordEnd c S a = some (sg, S) := by rw [← hg]; exact zq_e_wordEnd h ⟨ha0, by omega⟩
      have er : s_LR_readLabel c S a = if sg = a ∨ zq_bt S sg ≠ 61 then some (-1, zq_lrf S 7 sg) else
          (match (if 6 ≤ ss.length then none else zq_plcL (zq_bt S) a sg ss) with
          | none => some (-1, zq_lrf S 8 a)
          | some j => if zq_wdE (zq_bt S) 24 (sg + 1) = sg + 1 then some (-1, zq_lrf S 7 (sg + 1)) else some (zq_wdE (zq_bt S) 24 (sg + 1), zq_lrs S (zq_inA S.lr_nameAt j S.lr_labels a) (zq_inA S.lr_signAt j S.lr_labels sg) (zq_inA S.lr_valueEnd j S.lr_labels (zq_wdE (zq_bt S) 24 (sg + 1))) (S.lr_labels + 1))) := by
        unfold s_LR_readLabel
        refine (zq_mb2_eq ew).trans ?_
        rw [zq_w32i (z := sg) (by omega) (by omega), zq_w32i (z := a) (by omega) (by omega)]
        by_cases c1 : sg = a
        · rw [if_pos c1, if_pos (Or.inl c1)]; rfl
        · rw [if_neg c1]
          refine (zq_mb2_eq (zq_e_byteAt h (i := sg) ⟨by omega, by omega⟩)).trans ?_
          rw [zq_w32i (z := zq_bt S sg) (by omega) (by omega)]
          by_cases c2 : zq_bt S sg = 61
          · rw [if_pos c2, if_neg (by simp [c1, c2])]
            have ep : s_LR_placeFor c S a sg = some (match (if 6 ≤ ss.length then none else zq_plcL (zq_bt S) a sg ss) with | none => -1 | some j => ((j : Nat) : Int), S) := by
              unfold s_LR_placeFor
              rw [hH.1, zq_w32i (by omega) (by omega)]
              by_cases c3 : 6 ≤ ss.length
              · rw [if_neg (by omega), if_pos c3]
              · rw [if_pos (by omega), if_neg c3]
                have := zq_E_placeFor h (a := a) (s := sg) (by omega) ss hH h6 hok fU 0 ss (by simp) (by omega) (zq_fU_gt (by omega))
                rw [show ((0 : Nat) : Int) = 0 from rfl] at this
                rw [this]
                cases zq_plcL (zq_bt S) a sg ss with
                | none => rfl
                | some j => simp
            refine (zq_mb2_eq ep).trans ?_
            generalize hpj : (if 6 ≤ ss.length then none else zq_plcL (zq_bt S) a sg ss) = pj
            cases pj with
            | none => rw [if_pos (by decide)]; rfl
            | some j =>
              have hj6 : ¬ 6 ≤ ss.length := fun z => by rw [if_pos z] at hpj; cases hpj
              rw [if_neg hj6] at hpj
              have hj := zq_plcL_le hpj
              simp only
              rw [zq_w32i (z := ((j : Nat) : Int)) (by omega) (by omega), if_neg (by omega)]
              have hsn : sg < S.tp_size := by
                by_cases z : sg < S.tp_size
                · exact z
                · have := (hT.2 sg).mpr (by omega); omega
              have hw3 := zq_wdE_le (zq_bt S) 24 (sg + 1) (by omega)
              have hw4 := zq_wdE_lt hT (k := 24) (p := sg + 1) (by omega) (by omega) (by omega)
              refine (zq_mb2_eq (zq_e_wordEnd h (p := sg + 1) ⟨by omega, by omega⟩)).trans ?_
              generalize zq_wdE (zq_bt S) 24 (sg + 1) = en at *
              rw [zq_w32i (z := en) (by omega) (by omega), zq_w32i (z := sg + 1) (by omega) (by omega)]
              by_cases c4 : en = sg + 1
              · rw [if_pos c4, if_pos c4, c4]; rfl
              · rw [if_neg c4, if_neg c4]
                exact (zq_mb2_eq (zq_e_insert (by rw [hH.1]; omega) (by rw [hH.1]; omega))).trans rfl
          · rw [if_neg c2, if_pos (Or.inr c2)]; rfl
      rw [er]
      split
      · rfl
      · split
        · rfl
        · split <;> rfl
    rw [rl]
    by_cases c1 : sg = a ∨ zq_bt S sg ≠ 61
    · rw [if_pos c1, if_pos c1, if_pos (by decide)]
      exact ⟨fun ss' e => (by cases e), fun q e => (by cases e; exact ⟨S.lr_nameAt, S.lr_signAt, S.lr_valueEnd, S.lr_labels, rfl⟩)⟩
    · rw [if_neg c1, if_neg c1]
      generalize hpj : (if 6 ≤ ss.length then none else zq_plcL (zq_bt S) a sg ss) = pj
      cases pj with
      | none =>
        simp only
        rw [if_pos (by decide)]
        exact ⟨fun ss' e => (by cases e), fun q e => (by cases e; exact ⟨S.lr_nameAt, S.lr_signAt, S.lr_valueEnd, S.lr_labels, rfl⟩)⟩
      | some j =>
        have hj6 : ¬ 6 ≤ ss.length := fun z => by rw [if_pos z] at hpj; cases hpj
        rw [if_neg hj6] at hpj
        have hj := zq_plcL_le hpj
        simp only
        simp only [not_or, Decidable.not_not] at c1
        have hsn : sg < S.tp_size := by
          by_cases z : sg < S.tp_size
          · exact z
          · have := (hT.2 sg).mpr (by omega); omega
        have hw3 := zq_wdE_le (zq_bt S) 24 (sg + 1) (by omega)
        have hw4 := zq_wdE_lt hT (k := 24) (p := sg + 1) (by omega) (by omega) (by omega)
        generalize zq_wdE (zq_bt S) 24 (sg + 1) = en at *
        by_cases c4 : en = sg + 1
        · rw [if_pos c4, if_pos c4, if_pos (by decide)]
          exact ⟨fun ss' e => (by cases e), fun q e => (by cases e; exact ⟨S.lr_nameAt, S.lr_signAt, S.lr_valueEnd, S.lr_labels, rfl⟩)⟩
        · rw [if_neg c4, if_neg c4, zq_w32i (z := en) (by omega) (by omega), if_neg (show ¬ en = -1 by omega)]
          have hH' := zq_lrH_ins hH hj (a, sg, en)
          have hok' : ∀ l ∈ ss.take j ++ (a, sg, en) :: ss.drop j, zq_okL S.tp_size l := by
            intro l hl
            rcases List.mem_append.mp hl with z | z
            · exact hok l (List.mem_of_mem_take z)
            · rcases List.mem_cons.mp z with z | z
              · subst z; exact ⟨ha0, by show a < sg; omega, by show sg < en; omega, hw4⟩
              · exact hok l (List.mem_of_mem_drop z)
          have hlen' : (ss.take j ++ (a, sg, en) :: ss.drop j).length = ss.length + 1 := by simp; omega
          generalize hS1 : zq_lrs S (zq_inA S.lr_nameAt j S.lr_labels a) (zq_inA S.lr_signAt j S.lr_labels sg) (zq_inA S.lr_valueEnd j S.lr_labels en) (S.lr_labels + 1) = S1 at *
          have hI1 : zq_tpI c S1 := by rw [← hS1]; exact h
          have hb1 : zq_bt S1 = zq_bt S := by rw [← hS1]; rfl
          have hz1 : S1.tp_size = S.tp_size := by rw [← hS1]; rfl
          have hl1 : ∀ f g e m, zq_lrs S1 f g e m = zq_lrs S f g e m := by rw [← hS1]; intro f g e m; rfl
          have es : ∀ F : Int → WS → Option (Int × WS), mb2 (s_Tp_size c S1) F = F S.tp_size S1 := fun F => by rw [← hz1]; rfl
          rw [es, zq_w32i (z := S.tp_size) (by omega) (by omega)]
          by_cases c5 : en = S.tp_size
          · rw [if_pos c5, if_pos c5]
            refine ⟨fun ss' e => ?_, fun q e => by cases e⟩
            cases e
            refine ⟨S1.lr_nameAt, S1.lr_signAt, S1.lr_valueEnd, ?_, hok', by omega, ?_⟩
            · rw [← hl1, ← hH'.1]; exact hH'
            · rw [← hl1, ← hH'.1]; rfl
          · rw [if_neg c5, if_neg c5]
            have eb : ∀ F : Int → WS → Option (Int × WS), mb2 (s_Tp_byteAt c S1 en) F = F (zq_bt S en) S1 := fun F => by
              rw [← hb1]; exact zq_mb2_eq (zq_e_byteAt hI1 (i := en) ⟨by omega, by omega⟩)
            have ben := zq_bt_R S en
            rw [eb, zq_w32i (z := zq_bt S en) (by omega) (by omega)]
            by_cases c6 : zq_bt S en = 44
            · rw [if_pos c6, if_neg (by simp [c6])]
              have ih := zq_E_read (c := c) t k (en + 1) S1 (ss.take j ++ (a, sg, en) :: ss.drop j) hI1 hH' (by omega) (by omega) (by rw [hz1]; exact hok') (by omega) (by rw [hz1]; omega) (by omega)
              rw [hb1, hz1, hlen'] at ih
              rw [show ((ss.length : Int) + 1) = ((ss.length + 1 : Nat) : Int) by omega]
              simp only [hl1] at ih
              exact ih
            · rw [if_neg c6, if_pos c6]
              refine ⟨fun ss' e => (by cases e), fun q e => ?_⟩
              cases e
              refine ⟨S1.lr_nameAt, S1.lr_signAt, S1.lr_valueEnd, S1.lr_labels, ?_⟩
              rw [← hl1]; rfl
set_option maxRecDepth 100000 in
def zq_gdL (T : Int → Int) (n : Int) (l : zq_L3) : Prop := (0 ≤ l.1 ∧ l.1 < l.2.1 ∧ l.2.1 + 1 < l.2.2 ∧ l.2.2 ≤ n ∧ l.2.1 - l.1 ≤ 24 ∧ l.2.2 - l.2.1 ≤ 25) ∧ T l.2.1 = 61 ∧ (∀ i, l.1 ≤ i → i < l.2.1 → zq_wdB (T i) = true) ∧ (∀ i, l.2.1 < i → i < l.2.2 → zq_wdB (T i) = true)
set_option maxRecDepth 100000 in
def zq_srtL (T : Int → Int) (ss : List zq_L3) : Prop := ss.Pairwise (fun x y => zq_lexc (zq_nmL T x) (zq_nmL T y) = -1)
set_option maxRecDepth 100000 in
theorem zq_plc_srt {T : Int → Int} {x : zq_L3} : ∀ {ss : List zq_L3} {j : Nat}, zq_srtL T ss → zq_plcL T x.1 x.2.1 ss = some j → zq_srtL T (ss.take j ++ x :: ss.drop j)
  | [], j, _, h => by rw [zq_plcL] at h; cases h; simp [zq_srtL]
  | y :: ys, j, hs, h => by
    rw [zq_plcL] at h
    have hs2 := hs
    unfold zq_srtL at hs2
    rw [List.pairwise_cons] at hs2
    split at h
    · cases h
    · split at h
      · rename_i h0 h1
        cases h
        show zq_srtL T (x :: y :: ys)
        unfold zq_srtL
        rw [List.pairwise_cons]
        refine ⟨fun z hz => ?_, hs⟩
        rcases List.mem_cons.mp hz with e | e
        · subst e; exact h1
        · exact zq_lexc_tr _ _ _ h1 (hs2.1 z e)
      · rename_i h0 h1
        cases hq : zq_plcL T x.1 x.2.1 ys with
        | none => rw [hq] at h; cases h
        | some i =>
          rw [hq] at h; cases h
          have ih := zq_plc_srt (T := T) (x := x) hs2.2 hq
          show zq_srtL T (y :: (ys.take i ++ x :: ys.drop i))
          unfold zq_srtL
          rw [List.pairwise_cons]
          refine ⟨fun z hz => ?_, ih⟩
          rcases List.mem_append.mp hz with e | e
          · exact hs2.1 z (List.mem_of_mem_take e)
          · rcases List.mem_cons.mp e with e | e
            · subst e
              have r := zq_lexc_R (zq_nmL T z) (zq_nmL T y)
              have s := zq_lexc_sym (zq_nmL T z) (zq_nmL T y)
              unfold zq_nmL at *
              omega
            · exact hs2.1 z (List.mem_of_mem_drop e)
set_option maxRecDepth 100000 in
theorem zq_wdE_all {T : Int → Int} {k p i : Int} (h1 : p ≤ i) (h2 : i < zq_wdE T k p) : zq_wdB (T i) = true := zq_rfn_all (P := fun j => zq_wdB (T j)) h1 h2
set_option maxRecDepth 100000 in
theorem zq_rdL_ok {T : Int → Int} {n : Int} (hT : zq_tpT T n) : ∀ (t : Nat) (a : Int) (ss ss' : List zq_L3), 0 ≤ a → a ≤ n → zq_srtL T ss → (∀ l ∈ ss, zq_gdL T n l) → zq_rdL T n t a ss = .ok ss' → zq_srtL T ss' ∧ (∀ l ∈ ss', zq_gdL T n l) ∧ 0 < ss'.length ∧ ss'.length ≤ 6
  | 0, a, ss, ss', _, _, _, _, h => by cases h
  | t + 1, a, ss, ss', ha, hn, hs, hg, h => by
    have hw := zq_wdE_le T 24 a (by omega)
    have hw1 := zq_wdE_lt hT (k := 24) ha hn (by omega)
    rw [zq_rdL] at h
    split at h
    · cases h
    · rename_i c1
      simp only [not_or, Decidable.not_not] at c1
      split at h
      · cases h
      · rename_i j hj
        have hj6 : ¬ 6 ≤ ss.length := fun z => by rw [if_pos z] at hj; cases hj
        rw [if_neg hj6] at hj
        have hjl := zq_plcL_le hj
        have hsn : zq_wdE T 24 a < n := by
          by_cases z : zq_wdE T 24 a < n
          · exact z
          · have := (hT.2 (zq_wdE T 24 a)).mpr (by omega); omega
        have hw3 := zq_wdE_le T 24 (zq_wdE T 24 a + 1) (by omega)
        have hw4 := zq_wdE_lt hT (k := 24) (p := zq_wdE T 24 a + 1) (by omega) (by omega) (by omega)
        split at h
        · cases h
        · rename_i c4
          have x1 : zq_srtL T (ss.take j ++ (a, zq_wdE T 24 a, zq_wdE T 24 (zq_wdE T 24 a + 1)) :: ss.drop j) := zq_plc_srt (x := (a, zq_wdE T 24 a, zq_wdE T 24 (zq_wdE T 24 a + 1))) hs hj
          have x2 : ∀ l ∈ ss.take j ++ (a, zq_wdE T 24 a, zq_wdE T 24 (zq_wdE T 24 a + 1)) :: ss.drop j, zq_gdL T n l := by
            intro l hl
            rcases List.mem_append.mp hl with z | z
            · exact hg l (List.mem_of_mem_take z)
            · rcases List.mem_cons.mp z with z | z
              · subst z
                refine ⟨⟨ha, ?_, ?_, hw4, ?_, ?_⟩, c1.2, fun i h1 h2 => zq_wdE_all h1 h2, fun i h1 h2 => ?_⟩
                · show a < zq_wdE T 24 a; omega
                · show zq_wdE T 24 a + 1 < zq_wdE T 24 (zq_wdE T 24 a + 1); omega
                · show zq_wdE T 24 a - a ≤ 24; omega
                · show zq_wdE T 24 (zq_wdE T 24 a + 1) - zq_wdE T 24 a ≤ 25; omega
                · refine zq_wdE_all (k := 24) (p := zq_wdE T 24 a + 1) ?_ h2
                  have h1' : zq_wdE T 24 a < i := h1
                  omega
              · exact hg l (List.mem_of_mem_drop z)
          have x3 : (ss.take j ++ (a, zq_wdE T 24 a, zq_wdE T 24 (zq_wdE T 24 a + 1)) :: ss.drop j).length = ss.length + 1 := by simp; omega
          split at h
          · cases h; exact ⟨x1, x2, by omega, by omega⟩
          · split at h
            · cases h
            · rename_i c5 c6
              exact zq_rdL_ok hT t _ _ ss' (by omega) (by omega) x1 x2 h
/-! ===== the text that the labels make ===== -/
set_option maxRecDepth 100000 in
def zq_encT (T : Int → Int) : List zq_L3 → List Int
  | [] => []
  | l :: ls => 44 :: (zq_sl T l.1 l.2.2 ++ zq_encT T ls)
set_option maxRecDepth 100000 in
def zq_encL (T : Int → Int) : List zq_L3 → List Int
  | [] => []
  | l :: ls => zq_sl T l.1 l.2.2 ++ zq_encT T ls
set_option maxRecDepth 100000 in
/-- a row of bytes in an array from a place on -/
def zq_aH (f : Int → Int) (p : Int) (xs : List Int) : Prop := ∀ (i : Nat) (x : Int), xs[i]? = some x → f (p + i) = x
set_option maxRecDepth 100000 in
theorem zq_aH_app {f : Int → Int} {p : Int} {xs ys : List Int} (h1 : zq_aH f p xs) (h2 : zq_aH f (p + xs.length) ys) : zq_aH f p (xs ++ ys) := by
  intro i x hx
  by_cases c : i < xs.length
  · rw [List.getElem?_append_left c] at hx; exact h1 i x hx
  · rw [List.getElem?_append_right (by omega)] at hx
    have := h2 (i - xs.length) x hx
    rw [show p + (i : Int) = p + (xs.length : Int) + ((i - xs.length : Nat) : Int) by omega]; exact this
set_option maxRecDepth 100000 in
theorem zq_aH_snoc {f : Int → Int} {p : Int} {xs : List Int} (h1 : zq_aH f p xs) (x : Int) : zq_aH (aU f (p + xs.length) x) p (xs ++ [x]) := by
  intro i y hy
  unfold aU
  by_cases c : i < xs.length
  · rw [List.getElem?_append_left c] at hy
    rw [if_neg (by omega)]; exact h1 i y hy
  · rw [List.getElem?_append_right (by omega)] at hy
    have : i = xs.length := by
      have := (List.getElem?_eq_some_iff.mp hy).1
      simp at this; omega
    subst this
    rw [Nat.sub_self] at hy; cases hy
    rw [if_pos rfl]
set_option maxRecDepth 100000 in
def zq_lts (S : WS) (f : Int → Int) (n : Int) : WS := WS.w_lr_length (WS.w_lr_letters S f) n
set_option maxRecDepth 100000 in
def zq_byt (x : Int) : Prop := -128 ≤ x ∧ x ≤ 127
set_option maxRecDepth 100000 in
theorem zq_e_addLetter {c : CW} {S : WS} {x : Int} (hx : zq_byt x) (h0 : 0 ≤ S.lr_length) (h1 : S.lr_length < 300) : s_LR_addLetter c S x = some ((), zq_lts S (aU S.lr_letters S.lr_length x) (S.lr_length + 1)) := by
  unfold s_LR_addLetter
  rw [zq_w32i (by omega) (by omega), if_neg (by omega), if_pos ⟨h0, h1⟩, sb_id hx]; rfl
set_option maxRecDepth 100000 in
def zq_aB (f : Int → Int) (xs : List Int) : Prop := zq_aH f 0 xs ∧ ∀ j, zq_byt (f j)
set_option maxRecDepth 100000 in
theorem zq_aB_snoc {f : Int → Int} {xs : List Int} {x : Int} (h : zq_aB f xs) (hx : zq_byt x) : zq_aB (aU f xs.length x) (xs ++ [x]) := by
  have h1 := zq_aH_snoc h.1 x
  rw [Int.zero_add] at h1
  refine ⟨h1, fun j => ?_⟩
  unfold aU
  split
  · exact hx
  · exact h.2 j
set_option maxRecDepth 100000 in
/-- one label's bytes are laid -/
theorem zq_E_comp1 {c : CW} (S0 : WS) (h : zq_tpI c S0) (K : Int → WS → Option (Unit × WS)) {v : Int} (hv : 0 ≤ v ∧ v < 6) (hb : 0 ≤ S0.lr_valueEnd v ∧ S0.lr_valueEnd v ≤ S0.tp_size) (hby : ∀ i, S0.lr_nameAt v ≤ i → i < S0.lr_valueEnd v → zq_byt (zq_bt S0 i)) (ha : 0 ≤ S0.lr_nameAt v) : ∀ (k : Nat) (f : Int → Int) (xs : List Int) (p : Int), S0.lr_nameAt v ≤ p → p ≤ S0.lr_valueEnd v → zq_aB f xs → xs.length + (S0.lr_valueEnd v - p).toNat ≤ 300 → (S0.lr_valueEnd v - p).toNat < k →
    ∃ f', zq_aB f' (xs ++ zq_sl (zq_bt S0) p (S0.lr_valueEnd v)) ∧ q_LR_compose_32 c K k v p (zq_lts S0 f xs.length) = K (v + 1) (zq_lts S0 f' (xs ++ zq_sl (zq_bt S0) p (S0.lr_valueEnd v)).length)
  | 0, f, xs, p => by omega
  | k + 1, f, xs, p => by
    intro h0 h1 hf hl hk
    have t1 := h.1; have t2 := h.2.1; have t3 := h.2.2
    rw [q_LR_compose_32, if_pos hv]
    show ∃ f', _ ∧ (if w32 (S0.lr_valueEnd v) ≤ w32 p then _ else _) = _
    rw [zq_w32i (z := p) (by omega) (by omega), zq_w32i (z := S0.lr_valueEnd v) (by omega) (by omega)]
    by_cases c1 : S0.lr_valueEnd v ≤ p
    · rw [if_pos c1, zq_sl_nil c1, List.append_nil]; exact ⟨f, hf, rfl⟩
    · rw [if_neg c1, zq_sl_cons (by omega)]
      have eb : ∀ F : Int → WS → Option (Unit × WS), mb2 (s_Tp_byteAt c (zq_lts S0 f xs.length) p) F = F (zq_bt S0 p) (zq_lts S0 f xs.length) := fun F => zq_mb2_eq (zq_e_byteAt (S := zq_lts S0 f xs.length) h (i := p) ⟨by omega, by omega⟩)
      have el : ∀ F : Unit → WS → Option (Unit × WS), mb2 (s_LR_addLetter c (zq_lts S0 f xs.length) (zq_bt S0 p)) F = F () (zq_lts S0 (aU f xs.length (zq_bt S0 p)) (xs.length + 1)) := fun F => zq_mb2_eq (zq_e_addLetter (S := zq_lts S0 f xs.length) (hby p h0 (by omega)) (by show (0 : Int) ≤ (xs.length : Int); omega) (by show (xs.length : Int) < 300; omega))
      rw [eb, el]
      have hf' := zq_aB_snoc hf (hby p h0 (by omega))
      obtain ⟨f', g1, g2⟩ := zq_E_comp1 S0 h K hv hb hby ha k (aU f xs.length (zq_bt S0 p)) (xs ++ [zq_bt S0 p]) (p + 1) (by omega) (by omega) hf' (by simp; omega) (by omega)
      refine ⟨f', by simpa using g1, ?_⟩
      rw [show ((xs ++ [zq_bt S0 p]).length : Int) = (xs.length : Int) + 1 by simp] at g2
      rw [g2]; simp
set_option maxRecDepth 100000 in
theorem zq_wdB_byt {b : Int} (h : zq_wdB b = true) : zq_byt b := by have := (zq_wdB_iff b).mp h; unfold zq_byt; omega
set_option maxRecDepth 100000 in
theorem zq_gdL_byt {T : Int → Int} {n : Int} {l : zq_L3} (h : zq_gdL T n l) : ∀ i, l.1 ≤ i → i < l.2.2 → zq_byt (T i) := by
  intro i h1 h2
  by_cases c1 : i < l.2.1
  · exact zq_wdB_byt (h.2.2.1 i h1 c1)
  · by_cases c2 : i = l.2.1
    · rw [c2, h.2.1]; unfold zq_byt; omega
    · exact zq_wdB_byt (h.2.2.2 i (by omega) h2)
set_option maxRecDepth 100000 in
theorem zq_E_comp {c : CW} (S0 : WS) (h : zq_tpI c S0) (all : List zq_L3) (hH : zq_lrH S0 all) (h6 : all.length ≤ 6) (hg : ∀ l ∈ all, zq_gdL (zq_bt S0) S0.tp_size l) : ∀ (k : Nat) (v : Nat) (rest : List zq_L3) (f : Int → Int) (xs : List Int), all.drop v = rest → v ≤ all.length → all.length - v < k → zq_aB f xs → (v = 0 ∧ xs = [] ∨ 1 ≤ v ∧ xs.length + 1 ≤ 50 * v) →
    ∃ f', zq_aB f' (xs ++ (if v = 0 then zq_encL (zq_bt S0) rest else zq_encT (zq_bt S0) rest)) ∧ q_LR_compose_7 c k v (zq_lts S0 f xs.length) = some ((), zq_lts S0 f' (xs ++ (if v = 0 then zq_encL (zq_bt S0) rest else zq_encT (zq_bt S0) rest)).length) ∧ (xs ++ (if v = 0 then zq_encL (zq_bt S0) rest else zq_encT (zq_bt S0) rest)).length ≤ 300
  | 0, v, rest, f, xs => by omega
  | k + 1, v, rest, f, xs => by
    intro hd hv hk hf hx
    have t1 := h.1; have t2 := h.2.1; have t3 := h.2.2
    have hl : (zq_lts S0 f xs.length).lr_labels = all.length := hH.1
    rw [q_LR_compose_7, hl, zq_w32i (z := ((v : Nat) : Int)) (by omega) (by omega), zq_w32i (z := ((all.length : Nat) : Int)) (by omega) (by omega)]
    cases rest with
    | nil =>
      have : all.length ≤ v := by rw [List.drop_eq_nil_iff] at hd; exact hd
      rw [if_pos (show ((all.length : Nat) : Int) ≤ (v : Int) by omega)]
      have e : (if v = 0 then zq_encL (zq_bt S0) [] else zq_encT (zq_bt S0) []) = [] := by split <;> rfl
      rw [e, List.append_nil]
      exact ⟨f, hf, rfl, by rcases hx with ⟨-, rfl⟩ | hx <;> simp at * <;> omega⟩
    | cons y ys =>
      have hlt : v < all.length := by
        by_cases z : v < all.length
        · exact z
        · rw [List.drop_eq_nil_of_le (by omega)] at hd; cases hd
      have hy : all[v]? = some y := by
        have : (all.drop v)[0]? = some y := by rw [hd]; rfl
        rw [List.getElem?_drop] at this; simpa using this
      have hys : all.drop (v + 1) = ys := by rw [← List.drop_drop, hd]; rfl
      obtain ⟨e1, e2, e3⟩ := hH.2 v y hy
      have zq_gy := hg y (List.mem_of_getElem? hy)
      have g1 := zq_gy.1
      have step : ∀ (f0 : Int → Int) (zs : List Int), zq_aB f0 zs → zs.length ≤ 50 * v → ∃ f', zq_aB f' (zs ++ zq_sl (zq_bt S0) y.1 y.2.2) ∧ q_LR_compose_25 c (q_LR_compose_7 c k) v (zq_lts S0 f0 zs.length) = q_LR_compose_7 c k ((v + 1 : Nat) : Int) (zq_lts S0 f' (zs ++ zq_sl (zq_bt S0) y.1 y.2.2).length) := by
        intro f0 zs hz hzl
        rw [q_LR_compose_25, if_pos ⟨by omega, by omega⟩]
        have := zq_E_comp1 S0 h (q_LR_compose_7 c k) (v := (v : Int)) ⟨by omega, by omega⟩ (by rw [e3]; omega) (by rw [e1, e3]; exact zq_gdL_byt zq_gy) (by rw [e1]; omega) fU f0 zs (S0.lr_nameAt v) (by omega) (by rw [e1, e3]; omega) hz (by rw [e1, e3]; omega) (zq_fU_gt (by rw [e1, e3]; omega))
        rw [e1, e3] at this
        rw [show (zq_lts S0 f0 zs.length).lr_nameAt (v : Int) = y.1 from e1]
        exact this
      rw [if_neg (show ¬ ((all.length : Nat) : Int) ≤ (v : Int) by omega)]
      by_cases c0 : v = 0
      · rw [if_pos (show (v : Int) ≤ 0 by omega), if_pos c0]
        rcases hx with ⟨-, rfl⟩ | hx
        · obtain ⟨f', a1, a2⟩ := step f [] hf (by simp)
          rw [a2]
          obtain ⟨f2, b1, b2, b3⟩ := zq_E_comp S0 h all hH h6 hg k (v + 1) ys f' _ hys (by omega) (by omega) a1 (Or.inr ⟨by omega, by rw [List.length_append, zq_sl_len]; simp; omega⟩)
          rw [if_neg (by omega)] at b1 b2 b3
          refine ⟨f2, ?_, ?_, ?_⟩
          · simpa [zq_encL] using b1
          · rw [b2]; simp [zq_encL]
          · simpa [zq_encL] using b3
        · omega
      · rw [if_neg (show ¬ (v : Int) ≤ 0 by omega), if_neg c0]
        rcases hx with hx | hx
        · exact absurd hx.1 c0
        · have el : ∀ F : Unit → WS → Option (Unit × WS), mb2 (s_LR_addLetter c (zq_lts S0 f xs.length) 44) F = F () (zq_lts S0 (aU f xs.length 44) (xs.length + 1)) := fun F => zq_mb2_eq (zq_e_addLetter (S := zq_lts S0 f xs.length) (by unfold zq_byt; omega) (by show (0 : Int) ≤ (xs.length : Int); omega) (by show (xs.length : Int) < 300; omega))
          rw [el]
          have hf' := zq_aB_snoc hf (show zq_byt 44 by unfold zq_byt; omega)
          obtain ⟨f', a1, a2⟩ := step (aU f xs.length 44) (xs ++ [44]) hf' (by simp; omega)
          have ex : (((xs ++ [(44 : Int)]).length : Nat) : Int) = ((xs.length : Nat) : Int) + 1 := by simp
          rw [ex] at a2
          rw [a2]
          obtain ⟨f2, b1, b2, b3⟩ := zq_E_comp S0 h all hH h6 hg k (v + 1) ys f' _ hys (by omega) (by omega) a1 (Or.inr ⟨by omega, by rw [List.length_append, zq_sl_len]; simp; omega⟩)
          rw [if_neg (by omega)] at b1 b2 b3
          refine ⟨f2, ?_, ?_, ?_⟩
          · simpa [zq_encT] using b1
          · rw [b2]; simp [zq_encT]
          · simpa [zq_encT] using b3
set_option maxRecDepth 100000 in
/-- what the reader of labels does -/
theorem zq_e_read {c : CW} {S : WS} (h : zq_tpI c S) (hlb : ∀ j, zq_byt (S.lr_letters j)) :
    (∀ ss, zq_rdL (zq_bt S) S.tp_size 7 0 [] = .ok ss → ∃ f g e lt, s_LR_read c S = some (1, zq_lrf (zq_lts (zq_lrs S f g e ss.length) lt (zq_encL (zq_bt S) ss).length) 0 0) ∧ zq_lrH (zq_lrs S f g e ss.length) ss ∧ zq_aB lt (zq_encL (zq_bt S) ss) ∧ (zq_encL (zq_bt S) ss).length ≤ 300) ∧
    (∀ q, zq_rdL (zq_bt S) S.tp_size 7 0 [] = .error q → ∃ f g e m, s_LR_read c S = some (0, zq_lrf (zq_lrs S f g e m) q.1 q.2)) := by
  have t1 := h.1; have t2 := h.2.1; have t3 := h.2.2
  have hT := zq_bt_T h
  have := zq_E_read (c := c) 7 fU 0 (zq_lrf (zq_lrs S S.lr_nameAt S.lr_signAt S.lr_valueEnd 0) 0 0) [] h ⟨rfl, fun i l z => by simp at z⟩ rfl (by simp) (by simp) (by omega) h.1 (zq_fU_gt (by omega))
  constructor
  · intro ss hss
    obtain ⟨f, g, e, a1, a2, a3, a4⟩ := this.1 ss hss
    obtain ⟨r1, r2, r3, r4⟩ := zq_rdL_ok hT 7 0 [] ss (by omega) h.1 (by simp [zq_srtL]) (by simp) hss
    obtain ⟨lt, b1, b2, b3⟩ := zq_E_comp (c := c) (zq_lrf (zq_lrs S f g e ss.length) 0 0) h ss a1 r4 r2 fU 0 ss S.lr_letters [] (by simp) (by omega) (zq_fU_gt (by omega)) ⟨fun i x z => by simp at z, hlb⟩ (Or.inl ⟨rfl, rfl⟩)
    rw [if_pos rfl, List.nil_append] at b1 b2 b3
    refine ⟨f, g, e, lt, ?_, a1, b1, b3⟩
    show q_LR_read_19 c fU 0 0 (zq_lrf (zq_lrs S S.lr_nameAt S.lr_signAt S.lr_valueEnd 0) 0 0) = _
    refine a4.trans ?_
    exact (zq_mb2_eq (show s_LR_compose c (zq_lrf (zq_lrs S f g e ss.length) 0 0) = some ((), zq_lts (zq_lrf (zq_lrs S f g e ss.length) 0 0) lt (zq_encL (zq_bt S) ss).length) from b2)).trans rfl
  · intro q hq
    obtain ⟨f, g, e, m, a1⟩ := this.2 q hq
    exact ⟨f, g, e, m, a1⟩
set_option maxRecDepth 100000 in
theorem zq_rf_succ (P : Int → Bool) : ∀ (m : Nat) (i : Int), zq_rf P (m + 1) i = if zq_rf P m i = i + m ∧ P (i + m) = true then i + m + 1 else zq_rf P m i
  | 0, i => by
    rw [zq_rf, zq_rf, zq_rf]
    by_cases c : P i = true
    · rw [if_pos c, if_pos ⟨by simp, by simpa using c⟩]; simp
    · rw [if_neg c, if_neg (by simp; simpa using c)]
  | m + 1, i => by
    have ih := zq_rf_succ P m (i + 1)
    rw [zq_rf, ih, zq_rf]
    by_cases c : P i = true
    · rw [if_pos c, if_pos c]
      have e : i + 1 + (m : Int) = i + ((m + 1 : Nat) : Int) := by omega
      rw [e]
    · rw [if_neg c, if_neg c, if_neg (by intro z; have := z.1; omega)]
set_option maxRecDepth 100000 in
theorem zq_wd25 (T : Int → Int) (p : Int) : (zq_wdE T 25 p ≤ p + 24 → zq_wdE T 24 p = zq_wdE T 25 p) ∧ (zq_wdE T 25 p = p + 25 → zq_wdE T 24 p = p + 24 ∧ zq_wdB (T (p + 24)) = true) ∧ (zq_wdE T 25 p ≤ p + 24 ∨ zq_wdE T 25 p = p + 25) := by
  have h := zq_rf_succ (fun j => zq_wdB (T j)) 24 p
  have e1 : zq_wdE T 25 p = zq_rf (fun j => zq_wdB (T j)) 25 p := by unfold zq_wdE zq_rfn; rw [show (p + 25 - p).toNat = 25 by omega]
  have e2 : zq_wdE T 24 p = zq_rf (fun j => zq_wdB (T j)) 24 p := by unfold zq_wdE zq_rfn; rw [show (p + 24 - p).toNat = 24 by omega]
  rw [e1, e2]
  have l := zq_rf_le (fun j => zq_wdB (T j)) 24 p
  rw [show (24 + 1 : Nat) = 25 from rfl] at h
  rw [h]
  by_cases c : zq_rf (fun j => zq_wdB (T j)) 24 p = p + 24 ∧ zq_wdB (T (p + 24)) = true
  · have c' : zq_rf (fun j => zq_wdB (T j)) 24 p = p + ((24 : Nat) : Int) ∧ (fun j => zq_wdB (T j)) (p + ((24 : Nat) : Int)) = true := c
    rw [if_pos c']
    refine ⟨fun z => by omega, fun _ => c, Or.inr (by omega)⟩
  · rw [if_neg (by exact c)]
    refine ⟨fun _ => rfl, fun z => by omega, Or.inl (by omega)⟩
set_option maxRecDepth 100000 in
def zq_dupB (T : Int → Int) (a s : Int) (ls : List zq_L3) : Bool := ls.any (fun l => zq_nmL T l == zq_sl T a s)
set_option maxRecDepth 100000 in
def zq_rdM (T : Int → Int) (n : Int) : Nat → Int → List zq_L3 → Except (Int × Int) (List zq_L3)
  | 0, _, _ => .error (0, 0)
  | t + 1, a, ls =>
    if zq_wdE T 24 a = a ∨ T (zq_wdE T 24 a) ≠ 61 then .error (7, zq_wdE T 24 a) else
    if 6 ≤ ls.length ∨ zq_dupB T a (zq_wdE T 24 a) ls = true then .error (8, a) else
    if zq_wdE T 24 (zq_wdE T 24 a + 1) = zq_wdE T 24 a + 1 then .error (7, zq_wdE T 24 a + 1) else
    if zq_wdE T 24 (zq_wdE T 24 a + 1) = n then .ok (ls ++ [(a, zq_wdE T 24 a, zq_wdE T 24 (zq_wdE T 24 a + 1))]) else
    if T (zq_wdE T 24 (zq_wdE T 24 a + 1)) ≠ 44 then .error (7, zq_wdE T 24 (zq_wdE T 24 a + 1)) else
    zq_rdM T n t (zq_wdE T 24 (zq_wdE T 24 a + 1) + 1) (ls ++ [(a, zq_wdE T 24 a, zq_wdE T 24 (zq_wdE T 24 a + 1))])
set_option maxRecDepth 100000 in
def zq_mls (M : MS) (f : Int → Int) (n : Int) : MS := MS.w_m_labelCount (MS.w_m_labels M f) n
set_option maxRecDepth 100000 in
def zq_mlH (f : Int → Int) (ls : List zq_L3) : Prop := ∀ (i : Nat) (l : zq_L3), ls[i]? = some l → f (4 * i) = l.1 ∧ f (4 * i + 1) = l.2.1 - l.1 ∧ f (4 * i + 2) = l.2.1 + 1 ∧ f (4 * i + 3) = l.2.2 - (l.2.1 + 1)
set_option maxRecDepth 100000 in
theorem zq_mby_wd {M : MS} (h : zq_moI M) {i : Int} (hw : zq_wdB (zq_mby M i) = true) : 0 ≤ M.m_tape i ∧ zq_mby M i = M.m_tape i ∧ 0 ≤ i ∧ i < M.m_length := by
  have := (zq_wdB_iff _).mp hw
  have b := h.2.2 i
  unfold zq_mby at *
  split at this
  · rename_i c; rw [if_pos c]; omega
  · omega
set_option maxRecDepth 100000 in
theorem zq_E_twice {M : MS} (h : zq_moI M) (K : Int → MS → Option (Int × MS)) {a sg : Int} (ha : 0 ≤ a ∧ a ≤ sg ∧ sg ≤ M.m_length) (hw : ∀ i, a ≤ i → i < sg → zq_wdB (zq_mby M i) = true) (ls : List zq_L3) (hc : M.m_labelCount = ls.length) (hl : zq_mlH M.m_labels ls) (h6 : ls.length ≤ 6) (hg : ∀ l ∈ ls, zq_gdL (zq_mby M) M.m_length l) : ∀ (k : Nat) (i : Nat) (tw : Bool), i ≤ ls.length → ls.length - i < k → q_Mo_readLabels_95 K k a (sg - a) (if tw then 1 else 0) i M = q_Mo_readLabels_95 K 1 a (sg - a) (if (tw || zq_dupB (zq_mby M) a sg (ls.drop i)) then 1 else 0) ls.length M
  | 0, i, tw => by omega
  | k + 1, i, tw => by
    intro hi hk
    by_cases c1 : i = ls.length
    · subst c1
      rw [List.drop_length, show zq_dupB (zq_mby M) a sg [] = false from rfl, Bool.or_false, q_Mo_readLabels_95, q_Mo_readLabels_95, hc, if_pos (Int.le_refl _), if_pos (Int.le_refl _)]
    · have hlt : i < ls.length := by omega
      obtain ⟨l, hl0⟩ : ∃ l, ls[i]? = some l := ⟨ls[i], List.getElem?_eq_getElem hlt⟩
      have hd : ls.drop i = l :: ls.drop (i + 1) := by
        rw [List.drop_eq_getElem_cons hlt]
        rw [List.getElem?_eq_getElem hlt] at hl0; cases hl0; rfl
      obtain ⟨e1, e2, e3, e4⟩ := hl i l hl0
      have zq_gl := hg l (List.mem_of_getElem? hl0)
      have g1 := zq_gl.1
      have hM := h.2.1
      rw [hd, q_Mo_readLabels_95, hc, zq_w32i (z := ((i : Nat) : Int)) (by omega) (by omega), zq_w32i (z := ((ls.length : Nat) : Int)) (by omega) (by omega), if_neg (by omega), zq_w32_b]
      simp only [zq_b_eq0]
      have eci : ((i : Nat) : Int) + 1 = ((i + 1 : Nat) : Int) := by omega
      cases tw with
      | true =>
        rw [if_neg (by decide)]
        have ih := zq_E_twice h K ha hw ls hc hl h6 hg k (i + 1) true (by omega) (by omega)
        rw [Bool.true_or] at ih ⊢
        unfold q_Mo_readLabels_137 q_Mo_readLabels_142
        rw [eci]; exact ih
      | false =>
        rw [if_pos rfl, if_pos ⟨by omega, by omega⟩, if_pos ⟨by omega, by omega⟩, e1, e2]
        obtain ⟨r, r1, r2, r3, r4, r5⟩ := zq_e_mcmp h (a := l.1) (n := l.2.1 - l.1) (b := a) (m := sg - a) (by omega) (by omega) (by omega) (by omega)
          (fun j j1 j2 => (zq_mby_wd h (zq_gl.2.2.1 (l.1 + j) (by omega) (by omega))).1) (fun j j1 j2 => (zq_mby_wd h (hw (a + j) (by omega) (by omega))).1)
        rw [show l.1 + (l.2.1 - l.1) = l.2.1 by omega, show a + (sg - a) = sg by omega, zq_lexc_0] at r5
        have er : ∀ F : Int → MS → Option (Int × MS), mb2 (s_Mo_compare M l.1 (l.2.1 - l.1) a (sg - a)) F = F r M := fun F => zq_mb2_eq r1
        rw [er, zq_w32i (by omega) (by omega)]
        by_cases c2 : r = 0
        · rw [if_pos c2]
          have ih := zq_E_twice h K ha hw ls hc hl h6 hg k (i + 1) true (by omega) (by omega)
          rw [Bool.true_or] at ih
          have ed : zq_dupB (zq_mby M) a sg (l :: ls.drop (i + 1)) = true := by
            unfold zq_dupB; rw [List.any_cons]
            have : zq_nmL (zq_mby M) l = zq_sl (zq_mby M) a sg := r5.mp c2
            simp [this]
          rw [ed, Bool.or_true]
          unfold q_Mo_readLabels_137 q_Mo_readLabels_142
          rw [eci]; exact ih
        · rw [if_neg c2]
          have ih := zq_E_twice h K ha hw ls hc hl h6 hg k (i + 1) false (by omega) (by omega)
          have ed : zq_dupB (zq_mby M) a sg (l :: ls.drop (i + 1)) = zq_dupB (zq_mby M) a sg (ls.drop (i + 1)) := by
            unfold zq_dupB; rw [List.any_cons]
            have : ¬ zq_nmL (zq_mby M) l = zq_sl (zq_mby M) a sg := fun z => c2 (r5.mpr z)
            simp [this]
          rw [ed]
          unfold q_Mo_readLabels_142
          rw [eci]; exact ih
set_option maxRecDepth 100000 in
theorem zq_mlH_snoc {f : Int → Int} {ls : List zq_L3} (h : zq_mlH f ls) (x : zq_L3) : zq_mlH (aU (aU (aU (aU f (4 * (ls.length : Int)) x.1) (4 * (ls.length : Int) + 1) (x.2.1 - x.1)) (4 * (ls.length : Int) + 2) (x.2.1 + 1)) (4 * (ls.length : Int) + 3) (x.2.2 - (x.2.1 + 1))) (ls ++ [x]) := by
  intro i l hl
  unfold aU
  by_cases c : i < ls.length
  · rw [List.getElem?_append_left c] at hl
    obtain ⟨a, b, d, e⟩ := h i l hl
    refine ⟨?_, ?_, ?_, ?_⟩
    · rw [if_neg (by omega), if_neg (by omega), if_neg (by omega), if_neg (by omega)]; exact a
    · rw [if_neg (by omega), if_neg (by omega), if_neg (by omega), if_neg (by omega)]; exact b
    · rw [if_neg (by omega), if_neg (by omega), if_neg (by omega), if_neg (by omega)]; exact d
    · rw [if_neg (by omega), if_neg (by omega), if_neg (by omega), if_neg (by omega)]; exact e
  · rw [List.getElem?_append_right (by omega)] at hl
    have : i = ls.length := by
      have := (List.getElem?_eq_some_iff.mp hl).1
      simp at this; omega
    subst this
    rw [Nat.sub_self] at hl; cases hl
    refine ⟨?_, ?_, ?_, ?_⟩
    · rw [if_neg (by omega), if_neg (by omega), if_neg (by omega), if_pos rfl]
    · rw [if_neg (by omega), if_neg (by omega), if_pos rfl]
    · rw [if_neg (by omega), if_pos rfl]
    · rw [if_pos rfl]
set_option maxRecDepth 100000 in
theorem zq_flaw_fin {M : MS} {a b : Int} (h : M.m_faultCode = 0) : mb2 (s_Mo_flaw M a b) (fun r S => if r = 0 ∨ r = 1 then some (r, S) else none) = some (0, zq_mfs M a b) := by
  refine (zq_mb2_eq (zq_e_flaw a b h)).trans ?_
  rw [if_pos (Or.inl rfl)]
set_option maxRecDepth 100000 in
theorem zq_E_readLabels : ∀ (t k : Nat) (a : Int) (M : MS) (ls : List zq_L3), zq_moI M → M.m_faultCode = 0 → M.m_labelCount = ls.length → zq_mlH M.m_labels ls → ls.length + t = 7 → ls.length ≤ 6 → (∀ l ∈ ls, zq_gdL (zq_mby M) M.m_length l) → 0 ≤ a → a ≤ M.m_length → t < k →
    (∀ ls', zq_rdM (zq_mby M) M.m_length t a ls = .ok ls' → ∃ f, zq_mlH f ls' ∧ q_Mo_readLabels_7 k a M = some (1, zq_mls M f ls'.length)) ∧
    (∀ q, zq_rdM (zq_mby M) M.m_length t a ls = .error q → ∃ f m, q_Mo_readLabels_7 k a M = some (0, zq_mfs (zq_mls M f m) q.1 q.2))
  | 0, k, a, M, ls => by omega
  | t + 1, 0, a, M, ls => by omega
  | t + 1, k + 1, a, M, ls => by
    intro h hf hc hl hlen h6 hg ha0 ha1 hk
    have h1 := h.1; have h2 := h.2.1
    have hT := zq_mby_T h
    have w := zq_wd25 (zq_mby M) a
    have hw := zq_wdE_le (zq_mby M) 24 a (by omega)
    have hw1 := zq_wdE_lt hT (k := 24) ha0 ha1 (by omega)
    have hw25 := zq_wdE_le (zq_mby M) 25 a (by omega)
    have em : ∀ F : Int → MS → Option (Int × MS), mb2 (s_Mo_wordLength M a) F = F (zq_wdE (zq_mby M) 25 a - a) M := fun F => zq_mb2_eq (zq_e_wordLength h ⟨ha0, by omega⟩)
    rw [q_Mo_readLabels_7, em, zq_w32i (z := zq_wdE (zq_mby M) 25 a - a) (by omega) (by omega), zq_rdM]
    have err : ∀ (q : Int × Int) (X : Option (Int × MS)), X = some (0, zq_mfs M q.1 q.2) → (∀ ls', (Except.error q : Except (Int × Int) (List zq_L3)) = .ok ls' → ∃ f, zq_mlH f ls' ∧ X = some (1, zq_mls M f ls'.length)) ∧ (∀ q', (Except.error q : Except (Int × Int) (List zq_L3)) = .error q' → ∃ f m, X = some (0, zq_mfs (zq_mls M f m) q'.1 q'.2)) := by
      intro q X hX
      exact ⟨fun ls' e => (by cases e), fun q' e => (by cases e; exact ⟨M.m_labels, M.m_labelCount, hX⟩)⟩
    by_cases c1 : zq_wdE (zq_mby M) 25 a = a + 25
    · obtain ⟨e1, e2⟩ := w.2.1 c1
      rw [if_neg (show ¬ zq_wdE (zq_mby M) 25 a - a = 0 by omega), if_neg (show ¬ zq_wdE (zq_mby M) 25 a - a ≤ 24 by omega)]
      rw [if_pos (show zq_wdE (zq_mby M) 24 a = a ∨ zq_mby M (zq_wdE (zq_mby M) 24 a) ≠ 61 from Or.inr (by rw [e1]; have := (zq_wdB_iff _).mp e2; omega)), e1]
      refine err _ _ ?_
      unfold q_Mo_readLabels_23 q_Mo_readLabels_39
      rw [zq_w32i (z := zq_wdE (zq_mby M) 25 a - a) (by omega) (by omega), if_neg (by omega)]
      exact zq_flaw_fin hf
    · have e24 : zq_wdE (zq_mby M) 24 a = zq_wdE (zq_mby M) 25 a := w.1 (by omega)
      rw [← e24]
      generalize hsg : zq_wdE (zq_mby M) 24 a = sg at *
      have zq_bsg := zq_mby_R M sg
      by_cases c2 : sg = a
      · rw [if_pos (show sg - a = 0 by omega), if_pos (Or.inl c2)]
        refine err _ _ ?_
        unfold q_Mo_readLabels_23 q_Mo_readLabels_39
        rw [zq_w32i (z := sg - a) (by omega) (by omega), if_pos (by omega)]
        have := zq_flaw_fin (a := 7) (b := a + 0) hf
        rw [this, c2, Int.add_zero]
      · rw [if_neg (show ¬ sg - a = 0 by omega), if_pos (show sg - a ≤ 24 by omega), show a + (sg - a) = sg by omega, zq_w32i (z := sg) (by omega) (by omega), zq_w32i (z := M.m_length) (by omega) (by omega)]
        by_cases c3 : M.m_length ≤ sg
        · have : zq_mby M sg = -1 := if_neg (by omega)
          rw [if_pos c3, if_pos (Or.inr (by omega))]
          refine err _ _ ?_
          unfold q_Mo_readLabels_67
          rw [show a + (sg - a) = sg by omega]; exact zq_flaw_fin hf
        · have bt0 := h.2.2 sg
          have es : zq_mby M sg = M.m_tape sg % 256 := if_pos ⟨by omega, by omega⟩
          rw [if_neg c3, if_pos (show (0 : Int) ≤ sg ∧ sg < 65536 from ⟨by omega, by omega⟩), zq_w32i (z := M.m_tape sg) (by omega) (by omega)]
          by_cases c4 : M.m_tape sg = 61
          · have e61 : zq_mby M sg = 61 := by rw [es, c4]; rfl
            rw [if_pos c4, if_neg (show ¬ (sg = a ∨ zq_mby M sg ≠ 61) by simp [c2, e61])]
            have hwd : ∀ i, a ≤ i → i < sg → zq_wdB (zq_mby M i) = true := fun i i1 i2 => zq_wdE_all (k := 24) i1 (by rw [hsg]; exact i2)
            have tw := zq_E_twice h (q_Mo_readLabels_7 k) (a := a) (sg := sg) ⟨ha0, by omega, by omega⟩ hwd ls hc hl h6 hg fU 0
            have e91 : (if w32 M.m_labelCount = 6 then q_Mo_readLabels_91 (q_Mo_readLabels_7 k) a (sg - a) 1 M else q_Mo_readLabels_91 (q_Mo_readLabels_7 k) a (sg - a) 0 M) = q_Mo_readLabels_95 (q_Mo_readLabels_7 k) 1 a (sg - a) (if (decide (6 ≤ ls.length) || zq_dupB (zq_mby M) a sg ls) then 1 else 0) ls.length M := by
              rw [hc, zq_w32i (z := ((ls.length : Nat) : Int)) (by omega) (by omega)]
              have tw0 := tw (decide (6 ≤ ls.length)) (by omega) (zq_fU_gt (by omega))
              rw [List.drop_zero] at tw0
              rw [← tw0]
              unfold q_Mo_readLabels_91
              by_cases z : 6 ≤ ls.length
              · rw [if_pos (show ((ls.length : Nat) : Int) = 6 by omega), decide_eq_true z]; rfl
              · rw [if_neg (show ¬ ((ls.length : Nat) : Int) = 6 by omega), decide_eq_false z]; rfl
            rw [e91, q_Mo_readLabels_95, hc, if_pos (Int.le_refl _), zq_w32_b]
            simp only [zq_b_eq0]
            by_cases c5 : 6 ≤ ls.length ∨ zq_dupB (zq_mby M) a sg ls = true
            · have eb : (decide (6 ≤ ls.length) || zq_dupB (zq_mby M) a sg ls) = true := by
                rcases c5 with z | z <;> simp [z]
              rw [eb, if_neg (show ¬ true = false by decide), if_pos c5]
              exact err _ _ (zq_flaw_fin hf)
            · have eb : (decide (6 ≤ ls.length) || zq_dupB (zq_mby M) a sg ls) = false := by
                simp only [not_or] at c5; simp [c5]
              rw [eb, if_pos (show false = false from rfl), if_neg c5]
              simp only [not_or] at c5
              rw [show a + (sg - a) + 1 = sg + 1 by omega]
              have w2 := zq_wd25 (zq_mby M) (sg + 1)
              have hv := zq_wdE_le (zq_mby M) 24 (sg + 1) (by omega)
              have hv1 := zq_wdE_lt hT (k := 24) (p := sg + 1) (by omega) (by omega) (by omega)
              have hv25 := zq_wdE_le (zq_mby M) 25 (sg + 1) (by omega)
              have em2 : ∀ F : Int → MS → Option (Int × MS), mb2 (s_Mo_wordLength M (sg + 1)) F = F (zq_wdE (zq_mby M) 25 (sg + 1) - (sg + 1)) M := fun F => zq_mb2_eq (zq_e_wordLength h ⟨by omega, by omega⟩)
              rw [em2, zq_w32i (z := zq_wdE (zq_mby M) 25 (sg + 1) - (sg + 1)) (by omega) (by omega)]
              by_cases c6 : zq_wdE (zq_mby M) 25 (sg + 1) = sg + 1 + 25
              · obtain ⟨e1, e2⟩ := w2.2.1 c6
                have ew := (zq_wdB_iff _).mp e2
                have eh := zq_mby_wd h e2
                rw [if_neg (show ¬ zq_wdE (zq_mby M) 25 (sg + 1) - (sg + 1) = 0 by omega), if_neg (show ¬ zq_wdE (zq_mby M) 25 (sg + 1) - (sg + 1) ≤ 24 by omega), e1, if_neg (show ¬ sg + 1 + 24 = sg + 1 by omega), if_neg (show ¬ sg + 1 + 24 = M.m_length by omega), if_pos (show zq_mby M (sg + 1 + 24) ≠ 44 by omega)]
                refine err _ _ ?_
                unfold q_Mo_readLabels_188 q_Mo_readLabels_206
                rw [zq_w32i (z := zq_wdE (zq_mby M) 25 (sg + 1) - (sg + 1)) (by omega) (by omega), if_neg (by omega)]
                exact zq_flaw_fin hf
              · have e24b : zq_wdE (zq_mby M) 24 (sg + 1) = zq_wdE (zq_mby M) 25 (sg + 1) := w2.1 (by omega)
                rw [← e24b]
                generalize hen : zq_wdE (zq_mby M) 24 (sg + 1) = en at *
                by_cases c7 : en = sg + 1
                · rw [if_pos (show en - (sg + 1) = 0 by omega), if_pos c7]
                  refine err _ _ ?_
                  unfold q_Mo_readLabels_188 q_Mo_readLabels_206
                  rw [zq_w32i (z := en - (sg + 1)) (by omega) (by omega), if_pos (by omega)]
                  have := zq_flaw_fin (a := 7) (b := sg + 1 + 0) hf
                  rw [this, Int.add_zero]
                · rw [if_neg (show ¬ en - (sg + 1) = 0 by omega), if_pos (show en - (sg + 1) ≤ 24 by omega), if_neg c7, hc, if_pos (show (0 : Int) ≤ 4 * (ls.length : Int) ∧ 4 * (ls.length : Int) < 28 by omega), if_pos (show (0 : Int) ≤ 4 * (ls.length : Int) + 1 ∧ 4 * (ls.length : Int) + 1 < 28 by omega), if_pos (show (0 : Int) ≤ 4 * (ls.length : Int) + 2 ∧ 4 * (ls.length : Int) + 2 < 28 by omega), if_pos (show (0 : Int) ≤ 4 * (ls.length : Int) + 3 ∧ 4 * (ls.length : Int) + 3 < 28 by omega), show sg + 1 + (en - (sg + 1)) = en by omega, zq_w32i (z := en) (by omega) (by omega), zq_w32i (z := M.m_length) (by omega) (by omega)]
                  have hs := zq_mlH_snoc hl (a, sg, en)
                  have gx : zq_gdL (zq_mby M) M.m_length (a, sg, en) := ⟨⟨ha0, by show a < sg; omega, by show sg + 1 < en; omega, hv1, by show sg - a ≤ 24; omega, by show en - sg ≤ 25; omega⟩, e61, hwd, fun i i1 i2 => zq_wdE_all (k := 24) (p := sg + 1) (by have : sg < i := i1; omega) (by rw [hen]; exact i2)⟩
                  simp only at hs
                  generalize aU (aU (aU (aU M.m_labels (4 * (ls.length : Int)) a) (4 * (ls.length : Int) + 1) (sg - a)) (4 * (ls.length : Int) + 2) (sg + 1)) (4 * (ls.length : Int) + 3) (en - (sg + 1)) = f' at *
                  have elen : ((ls.length : Nat) : Int) + 1 = (((ls ++ [(a, sg, en)]).length : Nat) : Int) := by simp
                  by_cases c8 : en = M.m_length
                  · rw [if_pos c8, if_pos c8]
                    refine ⟨fun ls' e => ?_, fun q e => (by cases e)⟩
                    cases e
                    refine ⟨f', hs, ?_⟩
                    rw [elen]; rfl
                  · rw [if_neg c8, if_neg c8, if_pos (show (0 : Int) ≤ en ∧ en < 65536 by omega)]
                    have ben := h.2.2 en
                    have een : zq_mby M en = M.m_tape en % 256 := if_pos ⟨by omega, by omega⟩
                    rw [zq_w32i (z := M.m_tape en) (by omega) (by omega)]
                    by_cases c9 : M.m_tape en = 44
                    · rw [if_pos c9, if_neg (show ¬ zq_mby M en ≠ 44 by rw [een, c9]; decide)]
                      have ih := zq_E_readLabels t k (en + 1) (zq_mls M f' (((ls ++ [(a, sg, en)]).length : Nat) : Int)) (ls ++ [(a, sg, en)]) h hf rfl hs (by simp; omega) (by simp; omega) (fun l hl2 => by
                        rcases List.mem_append.mp hl2 with z | z
                        · exact hg l z
                        · simp at z; subst z; exact gx) (by omega) (by show en + 1 ≤ M.m_length; omega) (by omega)
                      rw [elen]
                      exact ih
                    · rw [if_neg c9, if_pos (show zq_mby M en ≠ 44 by rw [een]; omega)]
                      refine ⟨fun ls' e => (by cases e), fun q e => ?_⟩
                      cases e
                      exact ⟨f', _, zq_flaw_fin hf⟩
          · have e61 : zq_mby M sg ≠ 61 := by rw [es]; omega
            rw [if_neg c4, if_pos (Or.inr e61)]
            refine err _ _ ?_
            unfold q_Mo_readLabels_67
            rw [show a + (sg - a) = sg by omega]; exact zq_flaw_fin hf
set_option maxRecDepth 100000 in
theorem zq_dupB_iff {T : Int → Int} {a s : Int} {ls : List zq_L3} : zq_dupB T a s ls = true ↔ ∃ l ∈ ls, zq_nmL T l = zq_sl T a s := by
  unfold zq_dupB; rw [List.any_eq_true]; simp
set_option maxRecDepth 100000 in
theorem zq_plc_none {T : Int → Int} {a s : Int} : ∀ {ss : List zq_L3}, zq_srtL T ss → (zq_plcL T a s ss = none ↔ ∃ l ∈ ss, zq_nmL T l = zq_sl T a s)
  | [], _ => by simp [zq_plcL]
  | y :: ys, hs => by
    have hs2 := hs
    unfold zq_srtL at hs2
    rw [List.pairwise_cons] at hs2
    have ih := zq_plc_none (T := T) (a := a) (s := s) (ss := ys) hs2.2
    rw [zq_plcL]
    by_cases c1 : zq_lexc (zq_sl T a s) (zq_nmL T y) = 0
    · rw [if_pos c1]
      exact ⟨fun _ => ⟨y, by simp, ((zq_lexc_0 _ _).mp c1).symm⟩, fun _ => rfl⟩
    · rw [if_neg c1]
      by_cases c2 : zq_lexc (zq_sl T a s) (zq_nmL T y) = -1
      · rw [if_pos c2]
        refine ⟨fun e => (by cases e), fun ⟨l, h1, h2⟩ => ?_⟩
        rcases List.mem_cons.mp h1 with e | e
        · subst e; rw [← h2, (zq_lexc_0 _ _).mpr rfl] at c2; omega
        · have := zq_lexc_tr _ _ _ c2 (hs2.1 l e)
          rw [← h2, (zq_lexc_0 _ _).mpr rfl] at this; omega
      · rw [if_neg c2]
        have e : ((zq_plcL T a s ys).map (· + 1) = none) ↔ zq_plcL T a s ys = none := by cases zq_plcL T a s ys <;> simp
        rw [e, ih]
        constructor
        · rintro ⟨l, h1, h2⟩; exact ⟨l, List.mem_cons_of_mem _ h1, h2⟩
        · rintro ⟨l, h1, h2⟩
          rcases List.mem_cons.mp h1 with e | e
          · subst e; exact absurd ((zq_lexc_0 _ _).mpr h2.symm) c1
          · exact ⟨l, e, h2⟩
set_option maxRecDepth 100000 in
theorem zq_rd_eq {T : Int → Int} {n : Int} : ∀ (t : Nat) (a : Int) (ss ls : List zq_L3), ss.Perm ls → zq_srtL T ss → (∀ q, zq_rdM T n t a ls = .error q → zq_rdL T n t a ss = .error q) ∧ (∀ ls', zq_rdM T n t a ls = .ok ls' → ∃ ss', zq_rdL T n t a ss = .ok ss' ∧ ss'.Perm ls')
  | 0, a, ss, ls, _, _ => ⟨fun q e => e, fun ls' e => (by cases e)⟩
  | t + 1, a, ss, ls, hp, hs => by
    rw [zq_rdL, zq_rdM]
    by_cases c1 : zq_wdE T 24 a = a ∨ T (zq_wdE T 24 a) ≠ 61
    · rw [if_pos c1, if_pos c1]; exact ⟨fun q e => e, fun ls' e => (by cases e)⟩
    · rw [if_neg c1, if_neg c1]
      have hl := hp.length_eq
      by_cases c2 : 6 ≤ ls.length ∨ zq_dupB T a (zq_wdE T 24 a) ls = true
      · rw [if_pos c2]
        have : (if 6 ≤ ss.length then none else zq_plcL T a (zq_wdE T 24 a) ss) = none := by
          by_cases z : 6 ≤ ss.length
          · rw [if_pos z]
          · rw [if_neg z]
            rcases c2 with w | w
            · omega
            · obtain ⟨l, h1, h2⟩ := zq_dupB_iff.mp w
              exact (zq_plc_none hs).mpr ⟨l, hp.mem_iff.mpr h1, h2⟩
        rw [this]
        exact ⟨fun q e => e, fun ls' e => (by cases e)⟩
      · rw [if_neg c2]
        simp only [not_or] at c2
        rw [if_neg (show ¬ 6 ≤ ss.length by omega)]
        cases hj : zq_plcL T a (zq_wdE T 24 a) ss with
        | none =>
          obtain ⟨l, h1, h2⟩ := (zq_plc_none hs).mp hj
          exact absurd (zq_dupB_iff.mpr ⟨l, hp.mem_iff.mp h1, h2⟩) c2.2
        | some j =>
          simp only
          have hp' : (ss.take j ++ (a, zq_wdE T 24 a, zq_wdE T 24 (zq_wdE T 24 a + 1)) :: ss.drop j).Perm (ls ++ [(a, zq_wdE T 24 a, zq_wdE T 24 (zq_wdE T 24 a + 1))]) := by
            refine List.perm_middle.trans ?_
            rw [List.take_append_drop]
            exact (List.Perm.cons _ hp).trans (List.perm_append_singleton _ _).symm
          have hs' := zq_plc_srt (x := (a, zq_wdE T 24 a, zq_wdE T 24 (zq_wdE T 24 a + 1))) hs hj
          split
          · exact ⟨fun q e => e, fun ls' e => (by cases e)⟩
          · split
            · exact ⟨fun q e => (by cases e), fun ls' e => (by cases e; exact ⟨_, rfl, hp'⟩)⟩
            · split
              · exact ⟨fun q e => e, fun ls' e => (by cases e)⟩
              · exact zq_rd_eq t _ _ _ hp' hs'
/-! ===== the reference lays the text ===== -/
set_option maxRecDepth 100000 in
def zq_wrt (f : Int → Int) (p : Int) (xs : List Int) : Int → Int := fun j => if p ≤ j then (match xs[(j - p).toNat]? with | some x => x | none => f j) else f j
set_option maxRecDepth 100000 in
theorem zq_wrt_nil (f : Int → Int) (p : Int) : zq_wrt f p [] = f := by funext j; unfold zq_wrt; simp
set_option maxRecDepth 100000 in
theorem zq_wrt_snoc (f : Int → Int) (p : Int) (xs : List Int) (x : Int) : aU (zq_wrt f p xs) (p + xs.length) x = zq_wrt f p (xs ++ [x]) := by
  funext j; unfold aU zq_wrt
  by_cases c : j = p + xs.length
  · subst c
    rw [if_pos rfl, if_pos (by omega), show (p + (xs.length : Int) - p).toNat = xs.length by omega, List.getElem?_append_right (Nat.le_refl _), Nat.sub_self]; rfl
  · rw [if_neg c]
    by_cases c2 : p ≤ j
    · rw [if_pos c2, if_pos c2]
      by_cases c3 : (j - p).toNat < xs.length
      · rw [List.getElem?_append_left c3]
      · rw [List.getElem?_eq_none (by omega), List.getElem?_eq_none (by simp; omega)]
    · rw [if_neg c2, if_neg c2]
set_option maxRecDepth 100000 in
theorem zq_wrt_at (f : Int → Int) (p : Int) (xs : List Int) : zq_aH (zq_wrt f p xs) p xs := by
  intro i x hx
  unfold zq_wrt
  rw [if_pos (by omega), show (p + (i : Int) - p).toNat = i by omega, hx]
set_option maxRecDepth 100000 in
theorem zq_wrt_out (f : Int → Int) (p : Int) (xs : List Int) (j : Int) (h : j < p ∨ p + xs.length ≤ j) : zq_wrt f p xs j = f j := by
  unfold zq_wrt
  by_cases c : p ≤ j
  · rw [if_pos c, List.getElem?_eq_none (by omega)]
  · rw [if_neg c]
set_option maxRecDepth 100000 in
def zq_cntL (T : Int → Int) (ls : List zq_L3) (l : zq_L3) : Nat := ls.countP (fun x => decide (zq_lexc (zq_nmL T x) (zq_nmL T l) = -1))
set_option maxRecDepth 100000 in
theorem zq_cnt_srt {T : Int → Int} : ∀ {ss : List zq_L3} {i : Nat} {l : zq_L3}, zq_srtL T ss → ss[i]? = some l → zq_cntL T ss l = i
  | [], i, l, _, h => by simp at h
  | y :: ys, 0, l, hs, h => by
    unfold zq_srtL at hs
    rw [List.pairwise_cons] at hs
    simp at h; subst h
    unfold zq_cntL
    rw [List.countP_eq_zero]
    intro x hx
    rcases List.mem_cons.mp hx with e | e
    · subst e; simp [(zq_lexc_0 _ _).mpr rfl]
    · have := hs.1 x e
      have s := zq_lexc_sym (zq_nmL T x) (zq_nmL T y)
      simp; omega
  | y :: ys, i + 1, l, hs, h => by
    have hs2 := hs
    unfold zq_srtL at hs2
    rw [List.pairwise_cons] at hs2
    rw [List.getElem?_cons_succ] at h
    have ih := zq_cnt_srt (ss := ys) hs2.2 h
    unfold zq_cntL at *
    rw [List.countP_cons, ih, if_pos (by simp; exact hs2.1 l (List.mem_of_getElem? h))]
set_option maxRecDepth 100000 in
theorem zq_cnt_at {T : Int → Int} {ss ls : List zq_L3} (hp : ss.Perm ls) (hs : zq_srtL T ss) {l : zq_L3} (hl : l ∈ ls) {i : Nat} : zq_cntL T ls l = i ↔ ss[i]? = some l := by
  have e : zq_cntL T ls l = zq_cntL T ss l := (hp.countP_eq _).symm
  rw [e]
  constructor
  · intro h
    obtain ⟨j, hj⟩ := List.mem_iff_getElem?.mp (hp.mem_iff.mpr hl)
    have := zq_cnt_srt hs hj
    rw [h] at this; subst this; exact hj
  · exact zq_cnt_srt hs
set_option maxRecDepth 100000 in
theorem zq_gd_pos {M : MS} (h : zq_moI M) {l : zq_L3} (zq_gl : zq_gdL (zq_mby M) M.m_length l) : ∀ j, 0 ≤ j → j < l.2.1 - l.1 → 0 ≤ M.m_tape (l.1 + j) := fun j j1 j2 => (zq_mby_wd h (zq_gl.2.2.1 (l.1 + j) (by omega) (by omega))).1
set_option maxRecDepth 100000 in
theorem zq_E_below {M : MS} (h : zq_moI M) (K13 : Int → Int → Int → MS → Option (Int × MS)) (K27 : Int → Int → Int → Int → Int → MS → Option (Int × MS)) (ls : List zq_L3) (hc : M.m_labelCount = ls.length) (hl : zq_mlH M.m_labels ls) (h6 : ls.length ≤ 6) (hg : ∀ l ∈ ls, zq_gdL (zq_mby M) M.m_length l) (to n tn wh : Int) (k : Nat) (lk : zq_L3) (hk : ls[k]? = some lk) (htn : 0 ≤ tn ∧ tn ≤ 100) : ∀ (f : Nat) (j b : Nat), j ≤ ls.length → ls.length - j < f → b ≤ j → q_Mo_layText_42 K13 K27 f to n tn wh k b j M = if ((b + zq_cntL (zq_mby M) (ls.drop j) lk : Nat) : Int) = tn then K27 to n tn k (k + 1) M else K27 to n tn wh (k + 1) M
  | 0, j, b => by omega
  | f + 1, j, b => by
    intro hj hf hb
    have hM := h.2.1
    have hkl : k < ls.length := (List.getElem?_eq_some_iff.mp hk).1
    rw [q_Mo_layText_42, hc, zq_w32i (z := ((ls.length : Nat) : Int)) (by omega) (by omega), zq_w32i (z := ((j : Nat) : Int)) (by omega) (by omega), zq_w32i (z := ((b : Nat) : Int)) (by omega) (by omega), zq_w32i (z := tn) (by omega) (by omega)]
    by_cases c1 : j = ls.length
    · subst c1
      rw [if_pos (Int.le_refl _), List.drop_length, show zq_cntL (zq_mby M) [] lk = 0 from rfl, Nat.add_zero]; rfl
    · have hlt : j < ls.length := by omega
      obtain ⟨l, hl0⟩ : ∃ l, ls[j]? = some l := ⟨ls[j], List.getElem?_eq_getElem hlt⟩
      have hd : ls.drop j = l :: ls.drop (j + 1) := by
        rw [List.drop_eq_getElem_cons hlt]
        rw [List.getElem?_eq_getElem hlt] at hl0; cases hl0; rfl
      obtain ⟨e1, e2, -, -⟩ := hl j l hl0
      obtain ⟨k1, k2, -, -⟩ := hl k lk hk
      have zq_gl := hg l (List.mem_of_getElem? hl0)
      have gk := hg lk (List.mem_of_getElem? hk)
      have g1 := zq_gl.1; have g2 := gk.1
      rw [if_neg (show ¬ ((ls.length : Nat) : Int) ≤ ((j : Nat) : Int) by omega), if_pos ⟨by omega, by omega⟩, if_pos ⟨by omega, by omega⟩, if_pos ⟨by omega, by omega⟩, if_pos ⟨by omega, by omega⟩, e1, e2, k1, k2]
      obtain ⟨r, r1, r2, r3, r4, r5⟩ := zq_e_mcmp h (a := l.1) (n := l.2.1 - l.1) (b := lk.1) (m := lk.2.1 - lk.1) (by omega) (by omega) (by omega) (by omega) (zq_gd_pos h zq_gl) (zq_gd_pos h gk)
      rw [show l.1 + (l.2.1 - l.1) = l.2.1 by omega, show lk.1 + (lk.2.1 - lk.1) = lk.2.1 by omega] at r4
      have er : ∀ F : Int → MS → Option (Int × MS), mb2 (s_Mo_compare M l.1 (l.2.1 - l.1) lk.1 (lk.2.1 - lk.1)) F = F r M := fun F => zq_mb2_eq r1
      rw [er, zq_w32i (z := r) (by omega) (by omega), hd]
      have ecj : ((j : Nat) : Int) + 1 = ((j + 1 : Nat) : Int) := by omega
      have ec : zq_cntL (zq_mby M) (l :: ls.drop (j + 1)) lk = zq_cntL (zq_mby M) (ls.drop (j + 1)) lk + (if zq_lexc (zq_nmL (zq_mby M) l) (zq_nmL (zq_mby M) lk) = -1 then 1 else 0) := by
        unfold zq_cntL; rw [List.countP_cons]; simp
      rw [ec]
      by_cases c2 : r < 0
      · have c3 : zq_lexc (zq_nmL (zq_mby M) l) (zq_nmL (zq_mby M) lk) = -1 := r4.mp c2
        rw [if_neg (show ¬ 0 ≤ r by omega), if_pos c3, q_Mo_layText_105, ecj]
        have ih := zq_E_below h K13 K27 ls hc hl h6 hg to n tn wh k lk hk htn f (j + 1) (b + 1) (by omega) (by omega) (by omega)
        rw [show ((b : Nat) : Int) + 1 = ((b + 1 : Nat) : Int) by omega, ih, show b + 1 + zq_cntL (zq_mby M) (ls.drop (j + 1)) lk = b + (zq_cntL (zq_mby M) (ls.drop (j + 1)) lk + 1) by omega]
      · have c3 : ¬ zq_lexc (zq_nmL (zq_mby M) l) (zq_nmL (zq_mby M) lk) = -1 := fun z => c2 (r4.mpr z)
        rw [if_pos (show 0 ≤ r by omega), if_neg c3, q_Mo_layText_105, ecj, Int.add_zero, Nat.add_zero]
        exact zq_E_below h K13 K27 ls hc hl h6 hg to n tn wh k lk hk htn f (j + 1) b (by omega) (by omega) (by omega)
set_option maxRecDepth 100000 in
theorem zq_E_which {M : MS} (h : zq_moI M) (K13 : Int → Int → Int → MS → Option (Int × MS)) (ss ls : List zq_L3) (hp : ss.Perm ls) (hs : zq_srtL (zq_mby M) ss) (hc : M.m_labelCount = ls.length) (hl : zq_mlH M.m_labels ls) (h6 : ls.length ≤ 6) (hg : ∀ l ∈ ls, zq_gdL (zq_mby M) M.m_length l) (to n : Int) (tn : Nat) (l : zq_L3) (htn : ss[tn]? = some l) : ∀ (f k w : Nat), k ≤ ls.length → ls.length - k < f → ((∃ k', k ≤ k' ∧ ls[k']? = some l) ∨ ls[w]? = some l) → ∃ w' : Nat, ls[w']? = some l ∧ q_Mo_layText_27 K13 f to n tn w k M = q_Mo_layText_27 K13 1 to n tn w' ls.length M
  | 0, k, w => by omega
  | f + 1, k, w => by
    intro hk hf
    have htl : tn < ss.length := (List.getElem?_eq_some_iff.mp htn).1
    have hpl := hp.length_eq
    by_cases c1 : k = ls.length
    · intro hw
      subst c1
      refine ⟨w, ?_, ?_⟩
      · rcases hw with ⟨k', h1, h2⟩ | h
        · rw [List.getElem?_eq_none h1] at h2; cases h2
        · exact h
      · rw [q_Mo_layText_27, q_Mo_layText_27, hc, if_pos (Int.le_refl _), if_pos (Int.le_refl _)]
    · have hlt : k < ls.length := by omega
      have a1 : k + 1 ≤ ls.length := by omega
      have a2 : ls.length - (k + 1) < f := by omega
      obtain ⟨lk, hlk⟩ : ∃ l, ls[k]? = some l := ⟨ls[k], List.getElem?_eq_getElem hlt⟩
      rw [q_Mo_layText_27, hc, zq_w32i (z := ((ls.length : Nat) : Int)) (by omega) (by omega), zq_w32i (z := ((k : Nat) : Int)) (by omega) (by omega), if_neg (show ¬ ((ls.length : Nat) : Int) ≤ ((k : Nat) : Int) by omega)]
      have eb := zq_E_below h K13 (q_Mo_layText_27 K13 f) ls hc hl h6 hg to n tn w k lk hlk ⟨by omega, by omega⟩ fU 0 0 (by omega) (zq_fU_gt (by omega)) (by omega)
      rw [show ((0 : Nat) : Int) = 0 from rfl] at eb
      rw [eb, Nat.zero_add, List.drop_zero]
      have ca := zq_cnt_at hp hs (List.mem_of_getElem? hlk) (i := tn)
      have eck : ((k : Nat) : Int) + 1 = ((k + 1 : Nat) : Int) := by omega
      rw [eck]
      intro hw
      by_cases c2 : zq_cntL (zq_mby M) ls lk = tn
      · rw [if_pos (by omega)]
        have : lk = l := by have := ca.mp c2; rw [htn] at this; cases this; rfl
        subst this
        exact zq_E_which h K13 ss ls hp hs hc hl h6 hg to n tn lk htn f (k + 1) k a1 a2 (Or.inr hlk)
      · rw [if_neg (by omega)]
        refine zq_E_which h K13 ss ls hp hs hc hl h6 hg to n tn l htn f (k + 1) w a1 a2 ?_
        rcases hw with ⟨k', h1, h2⟩ | hw
        · refine Or.inl ⟨k', ?_, h2⟩
          by_cases z : k = k'
          · subst z; rw [hlk] at h2; cases h2; exact absurd (ca.mpr htn) c2
          · omega
        · exact Or.inr hw
set_option maxRecDepth 100000 in
def zq_mtx (M : MS) (f : Int → Int) : MS := MS.w_m_texts M f
set_option maxRecDepth 100000 in
theorem zq_E_lay1 {M : MS} (h : zq_moI M) (K13 : Int → Int → Int → MS → Option (Int × MS)) (f0 : Int → Int) {to tn e : Int} (hto : 0 ≤ to ∧ to ≤ 77824) (he : e ≤ M.m_length) : ∀ (k : Nat) (xs : List Int) (p : Int), 0 ≤ p → p ≤ e → (∀ i, p ≤ i → i < e → zq_mby M i = M.m_tape i) → xs.length + (e - p).toNat ≤ 300 → (e - p).toNat < k → q_Mo_layText_192 K13 k to xs.length tn e p (zq_mtx M (zq_wrt f0 to xs)) = K13 to (xs ++ zq_sl (zq_mby M) p e).length (tn + 1) (zq_mtx M (zq_wrt f0 to (xs ++ zq_sl (zq_mby M) p e)))
  | 0, xs, p => by omega
  | k + 1, xs, p => by
    intro h0 h1 hb hl hk
    have hM := h.2.1
    rw [q_Mo_layText_192, zq_w32i (z := p) (by omega) (by omega), zq_w32i (z := e) (by omega) (by omega)]
    by_cases c1 : e ≤ p
    · rw [if_pos c1, zq_sl_nil c1, List.append_nil]
    · have b := h.2.2 p
      rw [if_neg c1, zq_sl_cons (by omega), if_pos ⟨by omega, by omega⟩, if_pos ⟨by omega, by omega⟩, if_pos (show -128 ≤ (zq_mtx M (zq_wrt f0 to xs)).m_tape p ∧ (zq_mtx M (zq_wrt f0 to xs)).m_tape p ≤ 127 from b)]
      have ih := zq_E_lay1 h K13 f0 (tn := tn) hto he k (xs ++ [M.m_tape p]) (p + 1) (by omega) (by omega) (fun i i1 i2 => hb i (by omega) i2) (by simp; omega) (by omega)
      rw [← zq_wrt_snoc] at ih
      have ex : (((xs ++ [M.m_tape p]).length : Nat) : Int) = ((xs.length : Nat) : Int) + 1 := by simp
      rw [ex] at ih
      rw [hb p (Int.le_refl _) (by omega)]
      rw [List.append_assoc] at ih
      exact ih
set_option maxRecDepth 100000 in
theorem zq_gd_mby {M : MS} (h : zq_moI M) {l : zq_L3} (zq_gl : zq_gdL (zq_mby M) M.m_length l) : ∀ i, l.1 ≤ i → i < l.2.2 → zq_mby M i = M.m_tape i := by
  intro i h1 h2
  by_cases c1 : i < l.2.1
  · exact (zq_mby_wd h (zq_gl.2.2.1 i h1 c1)).2.1
  · by_cases c2 : i = l.2.1
    · have e := zq_gl.2.1
      have b := h.2.2 i
      rw [c2] at *
      unfold zq_mby at *
      split at e
      · rename_i z; rw [if_pos z]; omega
      · omega
    · exact (zq_mby_wd h (zq_gl.2.2.2 i (by omega) h2)).2.1
set_option maxRecDepth 100000 in
theorem zq_E_lay {M : MS} (h : zq_moI M) (ss ls : List zq_L3) (hp : ss.Perm ls) (hs : zq_srtL (zq_mby M) ss) (hc : M.m_labelCount = ls.length) (hl : zq_mlH M.m_labels ls) (h6 : ls.length ≤ 6) (hg : ∀ l ∈ ls, zq_gdL (zq_mby M) M.m_length l) (f0 : Int → Int) {to : Int} (hto : 0 ≤ to ∧ to ≤ 77824) : ∀ (k tn : Nat) (rest : List zq_L3) (xs : List Int), ss.drop tn = rest → tn ≤ ss.length → ss.length - tn < k → (tn = 0 ∧ xs = [] ∨ 1 ≤ tn ∧ xs.length + 1 ≤ 50 * tn) → q_Mo_layText_13 k to xs.length tn (zq_mtx M (zq_wrt f0 to xs)) = some (((xs ++ (if tn = 0 then zq_encL (zq_mby M) rest else zq_encT (zq_mby M) rest)).length : Int), zq_mtx M (zq_wrt f0 to (xs ++ (if tn = 0 then zq_encL (zq_mby M) rest else zq_encT (zq_mby M) rest))))
  | 0, tn, rest, xs => by omega
  | k + 1, tn, rest, xs => by
    intro hd ht hk hx
    have hpl := hp.length_eq
    have hM := h.2.1
    rw [q_Mo_layText_13, show (zq_mtx M (zq_wrt f0 to xs)).m_labelCount = ls.length from hc, zq_w32i (z := ((ls.length : Nat) : Int)) (by omega) (by omega), zq_w32i (z := ((tn : Nat) : Int)) (by omega) (by omega)]
    cases rest with
    | nil =>
      have : ss.length ≤ tn := by rw [List.drop_eq_nil_iff] at hd; exact hd
      have e : (if tn = 0 then zq_encL (zq_mby M) [] else zq_encT (zq_mby M) []) = [] := by split <;> rfl
      rw [if_pos (show ((ls.length : Nat) : Int) ≤ ((tn : Nat) : Int) by omega), e, List.append_nil]
    | cons y ys =>
      have hlt : tn < ss.length := by
        by_cases z : tn < ss.length
        · exact z
        · rw [List.drop_eq_nil_of_le (by omega)] at hd; cases hd
      have hy : ss[tn]? = some y := by
        have : (ss.drop tn)[0]? = some y := by rw [hd]; rfl
        rw [List.getElem?_drop] at this; simpa using this
      have hys : ss.drop (tn + 1) = ys := by rw [← List.drop_drop, hd]; rfl
      have my : y ∈ ls := hp.mem_iff.mp (List.mem_of_getElem? hy)
      have zq_gy := hg y my
      have g1 := zq_gy.1
      obtain ⟨k', hk'⟩ := List.mem_iff_getElem?.mp my
      rw [if_neg (show ¬ ((ls.length : Nat) : Int) ≤ ((tn : Nat) : Int) by omega)]
      obtain ⟨w, w1, w2⟩ := zq_E_which (M := zq_mtx M (zq_wrt f0 to xs)) h (q_Mo_layText_13 k) ss ls hp hs hc hl h6 hg to xs.length tn y hy fU 0 0 (by omega) (zq_fU_gt (by omega)) (Or.inl ⟨k', by omega, hk'⟩)
      rw [show ((0 : Nat) : Int) = 0 from rfl] at w2
      rw [w2]
      have hwl : w < ls.length := (List.getElem?_eq_some_iff.mp w1).1
      obtain ⟨e1, e2, e3, e4⟩ := hl w y w1
      have step : ∀ zs : List Int, zs.length ≤ 50 * tn → q_Mo_layText_152 (q_Mo_layText_13 k) to zs.length tn w (zq_mtx M (zq_wrt f0 to zs)) = q_Mo_layText_13 k to (zs ++ zq_sl (zq_mby M) y.1 y.2.2).length ((tn + 1 : Nat) : Int) (zq_mtx M (zq_wrt f0 to (zs ++ zq_sl (zq_mby M) y.1 y.2.2))) := by
        intro zs hz
        unfold q_Mo_layText_152
        rw [if_pos ⟨by omega, by omega⟩, if_pos ⟨by omega, by omega⟩, if_pos ⟨by omega, by omega⟩]
        rw [show (zq_mtx M (zq_wrt f0 to zs)).m_labels (4 * ((w : Nat) : Int)) = y.1 from e1, show (zq_mtx M (zq_wrt f0 to zs)).m_labels (4 * ((w : Nat) : Int) + 2) = y.2.1 + 1 from e3, show (zq_mtx M (zq_wrt f0 to zs)).m_labels (4 * ((w : Nat) : Int) + 3) = y.2.2 - (y.2.1 + 1) from e4, show y.2.1 + 1 + (y.2.2 - (y.2.1 + 1)) = y.2.2 by omega]
        exact zq_E_lay1 h (q_Mo_layText_13 k) f0 hto (by omega) fU zs y.1 (by omega) (by omega) (zq_gd_mby h zq_gy) (by omega) (zq_fU_gt (by omega))
      rw [q_Mo_layText_27, show (zq_mtx M (zq_wrt f0 to xs)).m_labelCount = ls.length from hc, if_pos (Int.le_refl _), zq_w32i (z := ((tn : Nat) : Int)) (by omega) (by omega)]
      by_cases c0 : tn = 0
      · rw [if_pos (show ((tn : Nat) : Int) ≤ 0 by omega), if_pos c0]
        rcases hx with ⟨-, rfl⟩ | hx
        · rw [step [] (by simp)]
          have ih := zq_E_lay h ss ls hp hs hc hl h6 hg f0 hto k (tn + 1) ys ([] ++ zq_sl (zq_mby M) y.1 y.2.2) hys (by omega) (by omega) (Or.inr ⟨by omega, by rw [List.length_append, zq_sl_len]; simp; omega⟩)
          rw [if_neg (by omega)] at ih
          rw [ih]; simp [zq_encL]
        · omega
      · rw [if_neg (show ¬ ((tn : Nat) : Int) ≤ 0 by omega), if_neg c0]
        rcases hx with hx | hx
        · exact absurd hx.1 c0
        · rw [if_pos ⟨by omega, by omega⟩]
          have ex : (((xs ++ [(44 : Int)]).length : Nat) : Int) = ((xs.length : Nat) : Int) + 1 := by simp
          have st := step (xs ++ [44]) (by simp; omega)
          rw [← zq_wrt_snoc, ex] at st
          have ih := zq_E_lay h ss ls hp hs hc hl h6 hg f0 hto k (tn + 1) ys (xs ++ [44] ++ zq_sl (zq_mby M) y.1 y.2.2) hys (by omega) (by omega) (Or.inr ⟨by omega, by rw [List.length_append, List.length_append, zq_sl_len]; simp; omega⟩)
          rw [if_neg (by omega)] at ih
          refine Eq.trans (show _ = q_Mo_layText_152 (q_Mo_layText_13 k) to (((xs.length : Nat) : Int) + 1) tn w (zq_mtx M (aU (zq_wrt f0 to xs) (to + ((xs.length : Nat) : Int)) 44)) from rfl) ?_
          rw [st, ih]; simp [zq_encT]
/-! ===== the series of a text ===== -/
set_option maxRecDepth 100000 in
def zq_allB (xs : List Int) : Prop := ∀ x ∈ xs, zq_byt x
set_option maxRecDepth 100000 in
theorem zq_aH_get {f : Int → Int} {p : Int} {xs : List Int} (h : zq_aH f p xs) {i : Nat} (hi : i < xs.length) : f (p + i) = xs[i] := h i _ (List.getElem?_eq_getElem hi)
set_option maxRecDepth 100000 in
theorem zq_drop_eq {xs ys : List Int} {i : Nat} (h1 : i < ys.length) (h2 : i < xs.length) : (ys.drop i = xs.drop i) ↔ ys[i] = xs[i] ∧ ys.drop (i + 1) = xs.drop (i + 1) := by
  rw [List.drop_eq_getElem_cons h1, List.drop_eq_getElem_cons h2, List.cons.injEq]
set_option maxRecDepth 100000 in
theorem zq_E_isOne {c : CW} {S : WS} {v : Nat} {xs ys : List Int} (hx : zq_aH S.lr_letters 0 xs) (hxl : S.lr_length = xs.length) (hy : zq_aH (S.se_letters v) 0 ys) (hyl : c.ln v = ys.length) (bx : zq_allB xs) (by_ : zq_allB ys) (hl : xs.length = ys.length) (h3 : ys.length ≤ 300) : ∀ (k i : Nat), i ≤ ys.length → ys.length - i < k → q_Se_isTheOneOf_16 c k v i S = some (if ys.drop i = xs.drop i then 1 else 0, S)
  | 0, i => by omega
  | k + 1, i => by
    intro hi hk
    rw [q_Se_isTheOneOf_16, hyl, zq_w32i (z := ((ys.length : Nat) : Int)) (by omega) (by omega), zq_w32i (z := ((i : Nat) : Int)) (by omega) (by omega)]
    by_cases c1 : ys.length ≤ i
    · rw [if_pos (by omega), List.drop_eq_nil_of_le c1, List.drop_eq_nil_of_le (by omega), if_pos rfl]
    · have h1 : i < ys.length := by omega
      have h2 : i < xs.length := by omega
      have ex := zq_aH_get hx h2
      have ey := zq_aH_get hy h1
      rw [Int.zero_add] at ex ey
      have b1 := bx xs[i] (List.getElem_mem h2)
      have b2 := by_ ys[i] (List.getElem_mem h1)
      unfold zq_byt at b1 b2
      rw [if_neg (by omega), if_pos ⟨by omega, by omega⟩]
      have el : s_LR_letterAt c S ((i : Nat) : Int) = some (xs[i], S) := by
        unfold s_LR_letterAt
        rw [hxl, zq_w32i (z := ((xs.length : Nat) : Int)) (by omega) (by omega), zq_w32i (z := ((i : Nat) : Int)) (by omega) (by omega), if_neg (by omega), if_neg (by omega), if_pos ⟨by omega, by omega⟩, ex]
      refine (zq_mb2_eq el).trans ?_
      rw [ey, zq_w32i (z := ys[i]) (by omega) (by omega), zq_w32i (z := xs[i]) (by omega) (by omega)]
      have de := zq_drop_eq h1 h2
      by_cases c2 : ys[i] = xs[i]
      · rw [if_pos c2, show ((i : Nat) : Int) + 1 = ((i + 1 : Nat) : Int) by omega, zq_E_isOne hx hxl hy hyl bx by_ hl h3 k (i + 1) (by omega) (by omega)]
        simp only [de, c2, true_and]
      · rw [if_neg c2, if_neg (by rw [de]; simp [c2])]
set_option maxRecDepth 100000 in
theorem zq_e_isOne {c : CW} {S : WS} {v : Nat} {xs ys : List Int} (hx : zq_aH S.lr_letters 0 xs) (hxl : S.lr_length = xs.length) (hy : zq_aH (S.se_letters v) 0 ys) (hyl : c.ln v = ys.length) (bx : zq_allB xs) (by_ : zq_allB ys) (h3 : ys.length ≤ 300) (h4 : xs.length ≤ 300) : s_Se_isTheOneOf c S v = some (if ys = xs then 1 else 0, S) := by
  unfold s_Se_isTheOneOf
  refine (zq_mb2_eq (show s_LR_length c S = some (S.lr_length, S) from rfl)).trans ?_
  rw [hxl, hyl, zq_w32i (z := ((xs.length : Nat) : Int)) (by omega) (by omega), zq_w32i (z := ((ys.length : Nat) : Int)) (by omega) (by omega)]
  by_cases c1 : xs.length = ys.length
  · rw [if_pos (by omega)]
    have := zq_E_isOne hx hxl hy hyl bx by_ c1 h3 fU 0 (by omega) (zq_fU_gt (by omega))
    rw [List.drop_zero, List.drop_zero] at this
    exact this
  · rw [if_neg (by omega), if_neg (fun e => c1 (by rw [e]))]
set_option maxRecDepth 100000 in
def zq_fnd (tx : Nat → List Int) (xs : List Int) : Nat → Nat → Int
  | 0, _ => -1
  | m + 1, s => if tx s = xs then (s : Int) else zq_fnd tx xs m (s + 1)
set_option maxRecDepth 100000 in
/-- what is true of the texts of all series, in the program -/
def zq_txW (c : CW) (S : WS) (tx : Nat → List Int) : Prop := c.N ≤ 256 ∧ ∀ s, s < c.N → zq_aH (S.se_letters s) 0 (tx s) ∧ c.ln s = (tx s).length ∧ zq_allB (tx s) ∧ (tx s).length ≤ 300
set_option maxRecDepth 100000 in
def zq_txM (N : Nat) (M : MS) (tx : Nat → List Int) : Prop := N ≤ 256 ∧ M.m_seriesCount = N ∧ ∀ s, s < N → zq_aH M.m_texts (304 * (s : Int)) (tx s) ∧ M.m_textLengths (s : Int) = (tx s).length ∧ zq_allB (tx s) ∧ (tx s).length ≤ 300
set_option maxRecDepth 100000 in
theorem zq_E_numberOf {c : CW} {S : WS} {xs : List Int} (hx : zq_aH S.lr_letters 0 xs) (hxl : S.lr_length = xs.length) (bx : zq_allB xs) (h4 : xs.length ≤ 300) {tx : Nat → List Int} (ht : zq_txW c S tx) : ∀ (k m s : Nat), s + m = c.N → m < k → q_St_numberOf_2 c k s S = some (zq_fnd tx xs m s, S)
  | 0, m, s => by omega
  | k + 1, m, s => by
    intro hs hk
    have hN := ht.1
    rw [q_St_numberOf_2, zq_w32i (z := ((c.N : Nat) : Int)) (by omega) (by omega), zq_w32i (z := ((s : Nat) : Int)) (by omega) (by omega)]
    cases m with
    | zero => rw [if_pos (by omega), zq_fnd]
    | succ m =>
      obtain ⟨a1, a2, a3, a4⟩ := ht.2 s (by omega)
      rw [if_neg (by omega), if_pos ⟨⟨by omega, by omega⟩, hN⟩, zq_fnd, Int.toNat_natCast]
      refine (zq_mb2_eq (zq_e_isOne hx hxl a1 a2 bx a3 a4 h4)).trans ?_
      by_cases c2 : tx s = xs
      · rw [if_pos c2, if_neg (by decide), if_pos c2]
      · rw [if_neg c2, if_pos (by decide), if_neg c2, q_St_numberOf_30, show ((s : Nat) : Int) + 1 = ((s + 1 : Nat) : Int) by omega]
        exact zq_E_numberOf hx hxl bx h4 ht k m (s + 1) (by omega) (by omega)
set_option maxRecDepth 100000 in
theorem zq_e_numberOf {c : CW} {S : WS} {xs : List Int} (hx : zq_aH S.lr_letters 0 xs) (hxl : S.lr_length = xs.length) (bx : zq_allB xs) (h4 : xs.length ≤ 300) {tx : Nat → List Int} (ht : zq_txW c S tx) : s_St_numberOf c S = some (zq_fnd tx xs c.N 0, S) :=
  zq_E_numberOf hx hxl bx h4 ht fU c.N 0 (by omega) (zq_fU_gt (by have := ht.1; omega))
set_option maxRecDepth 100000 in
theorem zq_E_mFind1 {M : MS} {N : Nat} (K : Int → Int → MS → Option (Int × MS)) {xs ys : List Int} {s : Nat} (hs : s < N) (hN : N ≤ 256) (hc : M.m_seriesCount = N) (hx : zq_aH M.m_texts (304 * (N : Int)) xs) (hy : zq_aH M.m_texts (304 * (s : Int)) ys) (bx : zq_allB xs) (by_ : zq_allB ys) (h3 : ys.length ≤ 300) (h4 : xs.length ≤ 300) : ∀ (k i : Nat) (b : Bool), i ≤ xs.length → xs.length - i < k → (b = true → xs.length = ys.length) → q_Mo_find_29 K k xs.length s (if b then 1 else 0) i M = (if b = true ∧ ys.drop i = xs.drop i then some ((s : Int), M) else K xs.length (s + 1) M)
  | 0, i, b => by omega
  | k + 1, i, b => by
    intro hi hk hb
    rw [q_Mo_find_29, zq_w32i (z := ((xs.length : Nat) : Int)) (by omega) (by omega), zq_w32i (z := ((i : Nat) : Int)) (by omega) (by omega), zq_w32_b]
    simp only [zq_b_eq0]
    have fin : q_Mo_find_83 K xs.length s (if b then 1 else 0) M = if b = true then some ((s : Int), M) else K xs.length (s + 1) M := by
      unfold q_Mo_find_83
      rw [zq_w32_b]; simp only [zq_b_eq0]
      cases b <;> simp
    by_cases c1 : xs.length ≤ i
    · rw [if_pos (by omega), fin]
      cases b with
      | false => simp
      | true =>
        rw [if_pos rfl, if_pos ⟨rfl, by rw [List.drop_eq_nil_of_le (by have := hb rfl; omega), List.drop_eq_nil_of_le c1]⟩]
    · rw [if_neg (by omega)]
      cases b with
      | false => rw [if_pos rfl, fin]; simp
      | true =>
        have hl := hb rfl
        rw [if_neg (by decide), hc]
        have h1 : i < ys.length := by omega
        have h2 : i < xs.length := by omega
        have ex := zq_aH_get hx h2
        have ey := zq_aH_get hy h1
        have b1 := bx xs[i] (List.getElem_mem h2)
        have b2 := by_ ys[i] (List.getElem_mem h1)
        unfold zq_byt at b1 b2
        rw [if_pos ⟨by omega, by omega⟩, if_pos ⟨by omega, by omega⟩, ex, ey, zq_w32i (z := ys[i]) (by omega) (by omega), zq_w32i (z := xs[i]) (by omega) (by omega)]
        have de := zq_drop_eq h1 h2
        unfold q_Mo_find_76
        have ei : ((i : Nat) : Int) + 1 = ((i + 1 : Nat) : Int) := by omega
        by_cases c2 : ys[i] = xs[i]
        · rw [if_pos c2, ei]
          have ih := zq_E_mFind1 K hs hN hc hx hy bx by_ h3 h4 k (i + 1) true (by omega) (by omega) hb
          rw [if_pos (show true = true from rfl)] at ih
          rw [ih]; simp only [de, c2, true_and]
        · rw [if_neg c2, ei]
          have ih := zq_E_mFind1 K hs hN hc hx hy bx by_ h3 h4 k (i + 1) false (by omega) (by omega) (fun e => by cases e)
          rw [if_neg (by decide)] at ih
          rw [ih, if_neg (by simp), if_neg (by rw [de]; simp [c2])]
set_option maxRecDepth 100000 in
theorem zq_E_mFind {M : MS} {N : Nat} {tx : Nat → List Int} (ht : zq_txM N M tx) {xs : List Int} (hx : zq_aH M.m_texts (304 * (N : Int)) xs) (bx : zq_allB xs) (h4 : xs.length ≤ 300) : ∀ (k m s : Nat), s + m = N → m < k → q_Mo_find_2 k xs.length s M = some (zq_fnd tx xs m s, M)
  | 0, m, s => by omega
  | k + 1, m, s => by
    intro hs hk
    have hN := ht.1
    rw [q_Mo_find_2, ht.2.1, zq_w32i (z := ((N : Nat) : Int)) (by omega) (by omega), zq_w32i (z := ((s : Nat) : Int)) (by omega) (by omega)]
    cases m with
    | zero => rw [if_pos (by omega), zq_fnd]
    | succ m =>
      obtain ⟨a1, a2, a3, a4⟩ := ht.2.2 s (by omega)
      rw [if_neg (by omega), if_pos ⟨by omega, by omega⟩, zq_fnd, a2, zq_w32i (z := (((tx s).length : Nat) : Int)) (by omega) (by omega), zq_w32i (z := ((xs.length : Nat) : Int)) (by omega) (by omega)]
      unfold q_Mo_find_25
      have key := fun b hb => zq_E_mFind1 (q_Mo_find_2 k) (s := s) (by omega) hN ht.2.1 hx a1 bx a3 a4 h4 fU 0 b (by omega) (zq_fU_gt (by omega)) hb
      have ih := zq_E_mFind ht hx bx h4 k m (s + 1) (by omega) (by omega)
      rw [show ((s + 1 : Nat) : Int) = ((s : Nat) : Int) + 1 by omega] at ih
      rw [show ((0 : Nat) : Int) = 0 from rfl] at key
      by_cases c1 : (tx s).length = xs.length
      · rw [if_pos (by omega)]
        have := key true (fun _ => c1.symm)
        rw [if_pos (show true = true from rfl)] at this
        rw [this, ih, List.drop_zero, List.drop_zero]
        by_cases c2 : tx s = xs
        · rw [if_pos c2, if_pos ⟨rfl, c2⟩]
        · rw [if_neg c2, if_neg (by simp [c2])]
      · rw [if_neg (by omega)]
        have := key false (fun e => by cases e)
        rw [if_neg (show ¬ false = true by decide)] at this
        rw [this, ih, if_neg (by simp), if_neg (fun e => c1 (by rw [e]))]
set_option maxRecDepth 100000 in
theorem zq_e_mFind {M : MS} {N : Nat} {tx : Nat → List Int} (ht : zq_txM N M tx) {xs : List Int} (hx : zq_aH M.m_texts (304 * (N : Int)) xs) (bx : zq_allB xs) (h4 : xs.length ≤ 300) : s_Mo_find M xs.length = some (zq_fnd tx xs N 0, M) :=
  zq_E_mFind ht hx bx h4 fU N 0 (by omega) (zq_fU_gt (by have := ht.1; omega))
/-! ===== rows of anything in arrays ===== -/
set_option maxRecDepth 100000 in
def zq_gsl {α : Type} (g : Int → α) : Nat → Int → List α
  | 0, _ => []
  | m + 1, p => g p :: zq_gsl g m (p + 1)
set_option maxRecDepth 100000 in
theorem zq_gsl_len {α : Type} (g : Int → α) : ∀ (m : Nat) (p : Int), (zq_gsl g m p).length = m
  | 0, _ => rfl
  | m + 1, p => by rw [zq_gsl, List.length_cons, zq_gsl_len]
set_option maxRecDepth 100000 in
theorem zq_gsl_get {α : Type} (g : Int → α) : ∀ (m : Nat) (p : Int) (i : Nat), i < m → (zq_gsl g m p)[i]? = some (g (p + i))
  | 0, _, _, h => by omega
  | m + 1, p, 0, _ => by rw [zq_gsl]; simp
  | m + 1, p, i + 1, h => by
    rw [zq_gsl, List.getElem?_cons_succ, zq_gsl_get g m (p + 1) i (by omega)]
    congr 2; omega
set_option maxRecDepth 100000 in
theorem zq_gsl_congr {α : Type} {g g' : Int → α} : ∀ (m : Nat) (p : Int), (∀ j, p ≤ j → j < p + m → g j = g' j) → zq_gsl g m p = zq_gsl g' m p
  | 0, _, _ => rfl
  | m + 1, p, h => by
    rw [zq_gsl, zq_gsl, h p (by omega) (by omega), zq_gsl_congr m (p + 1) (fun j j1 j2 => h j (by omega) (by omega))]
set_option maxRecDepth 100000 in
theorem zq_gsl_app {α : Type} (g : Int → α) : ∀ (m k : Nat) (p : Int), zq_gsl g (m + k) p = zq_gsl g m p ++ zq_gsl g k (p + m)
  | 0, k, p => by rw [zq_gsl, List.nil_append, Nat.zero_add]; simp
  | m + 1, k, p => by
    rw [show m + 1 + k = (m + k) + 1 by omega, zq_gsl, zq_gsl_app g m k (p + 1), zq_gsl, List.cons_append, show p + 1 + (m : Int) = p + ((m + 1 : Nat) : Int) by omega]
set_option maxRecDepth 100000 in
theorem zq_gsl_snoc {α : Type} (g : Int → α) (m : Nat) (p : Int) : zq_gsl g (m + 1) p = zq_gsl g m p ++ [g (p + m)] := by
  rw [zq_gsl_app g m 1 p]; rfl
set_option maxRecDepth 100000 in
theorem zq_gsl_mem {α : Type} {g : Int → α} {m : Nat} {p : Int} {x : α} (h : x ∈ zq_gsl g m p) : ∃ j, p ≤ j ∧ j < p + m ∧ x = g j := by
  obtain ⟨i, hi⟩ := List.mem_iff_getElem?.mp h
  have hlt : i < m := by have := (List.getElem?_eq_some_iff.mp hi).1; rw [zq_gsl_len] at this; exact this
  rw [zq_gsl_get g m p i hlt] at hi
  exact ⟨p + i, by omega, by omega, by cases hi; rfl⟩
/-! ===== the reference's points ===== -/
set_option maxRecDepth 100000 in
abbrev zq_P4 : Type := Int × Int64 × Int64 × Int
set_option maxRecDepth 100000 in
def zq_pg4 (M : MS) (p : Int) : zq_P4 := (M.m_pointSeries p, M.m_pointTimes p, M.m_pointValues p, M.m_places p)
set_option maxRecDepth 100000 in
def zq_mpts (M : MS) : List zq_P4 := zq_gsl (zq_pg4 M) M.m_points.toNat 0
set_option maxRecDepth 100000 in
def zq_isP (s : Int) (a b : Int64) (x : zq_P4) : Bool := decide ((s = -1 ∨ x.1 = s) ∧ a.toInt ≤ x.2.1.toInt ∧ x.2.1.toInt ≤ b.toInt)
set_option maxRecDepth 100000 in
def zq_mpI (M : MS) : Prop := 0 ≤ M.m_points ∧ M.m_points ≤ 8192 ∧ ∀ p, 0 ≤ p → p < M.m_points → iR (M.m_pointSeries p) ∧ 0 ≤ M.m_places p ∧ M.m_places p ≤ 1
set_option maxRecDepth 100000 in
theorem zq_E_between {M : MS} (h : zq_mpI M) {s : Int} (hs : iR s) (a b : Int64) (pk : Bool) : ∀ (k : Nat) (acc p : Int), 0 ≤ p → p ≤ M.m_points → (M.m_points - p).toNat < k → q_Mo_between_6 k s a b (if pk then 1 else 0) acc p M = some (acc + ((zq_gsl (zq_pg4 M) (M.m_points - p).toNat p).countP (fun x => zq_isP s a b x && (!pk || x.2.2.2 == 1)) : Nat), M)
  | 0, acc, p => by omega
  | k + 1, acc, p => by
    intro h0 h1 hk
    have hb := h.1; have hb2 := h.2.1
    rw [q_Mo_between_6, zq_w32i (z := M.m_points) (by omega) (by omega), zq_w32i (z := p) (by omega) (by omega)]
    by_cases c1 : M.m_points ≤ p
    · rw [if_pos c1, show (M.m_points - p).toNat = 0 by omega]; simp [zq_gsl]
    · obtain ⟨hi, hp0, hp1⟩ := h.2.2 p h0 (by omega)
      rw [if_neg c1, w32_id hs, show (M.m_points - p).toNat = (M.m_points - (p + 1)).toNat + 1 by omega, zq_gsl, List.countP_cons]
      have ih := fun acc' => zq_E_between h hs a b pk k acc' (p + 1) (by omega) (by omega) (by omega)
      have no : zq_isP s a b (zq_pg4 M p) = false → q_Mo_between_60 (q_Mo_between_6 k) s a b (if pk then 1 else 0) acc p M = some (acc + (((zq_gsl (zq_pg4 M) (M.m_points - (p + 1)).toNat (p + 1)).countP (fun x => zq_isP s a b x && (!pk || x.2.2.2 == 1)) + (if (zq_isP s a b (zq_pg4 M p) && (!pk || (zq_pg4 M p).2.2.2 == 1)) = true then 1 else 0) : Nat) : Int), M) := fun e => by
        unfold q_Mo_between_60 q_Mo_between_61 q_Mo_between_90 q_Mo_between_91
        rw [if_pos (by decide), ih (acc + 0), e]; simp
      have yes : zq_isP s a b (zq_pg4 M p) = true → q_Mo_between_61 (q_Mo_between_6 k) s a b (if pk then 1 else 0) acc p 1 M = some (acc + (((zq_gsl (zq_pg4 M) (M.m_points - (p + 1)).toNat (p + 1)).countP (fun x => zq_isP s a b x && (!pk || x.2.2.2 == 1)) + (if (zq_isP s a b (zq_pg4 M p) && (!pk || (zq_pg4 M p).2.2.2 == 1)) = true then 1 else 0) : Nat) : Int), M) := fun e => by
        unfold q_Mo_between_61 q_Mo_between_90 q_Mo_between_86 q_Mo_between_91
        rw [if_neg (by decide), zq_w32_b, e]
        simp only [zq_b_eq0, Bool.true_and]
        cases pk with
        | false =>
          rw [if_pos rfl, ih (acc + 1)]
          simp; omega
        | true =>
          rw [if_neg (by decide), if_pos ⟨by omega, by omega⟩, zq_w32i (z := M.m_places p) (by omega) (by omega)]
          by_cases c5 : M.m_places p = 1
          · rw [if_pos c5, ih (acc + 1)]
            simp [zq_pg4, c5]; omega
          · rw [if_neg c5, ih (acc + 0)]
            simp [zq_pg4, c5]
      have mid : (s = -1 ∨ M.m_pointSeries p = s) → q_Mo_between_31 (q_Mo_between_6 k) s a b (if pk then 1 else 0) acc p M = some (acc + (((zq_gsl (zq_pg4 M) (M.m_points - (p + 1)).toNat (p + 1)).countP (fun x => zq_isP s a b x && (!pk || x.2.2.2 == 1)) + (if (zq_isP s a b (zq_pg4 M p) && (!pk || (zq_pg4 M p).2.2.2 == 1)) = true then 1 else 0) : Nat) : Int), M) := fun e => by
        unfold q_Mo_between_31
        rw [if_pos ⟨by omega, by omega⟩]
        by_cases c3 : (M.m_pointTimes p).toInt < a.toInt
        · rw [if_pos c3]; exact no (by unfold zq_isP zq_pg4; simp; intro _ z; omega)
        · rw [if_neg c3, if_pos ⟨by omega, by omega⟩]
          by_cases c4 : b.toInt < (M.m_pointTimes p).toInt
          · rw [if_pos c4]; exact no (by unfold zq_isP zq_pg4; simp; intro _ z; omega)
          · rw [if_neg c4]; exact yes (by unfold zq_isP zq_pg4; simp; exact ⟨e, by omega, by omega⟩)
      by_cases c2 : s = -1
      · rw [if_pos c2]; exact mid (Or.inl c2)
      · rw [if_neg c2, if_pos ⟨by omega, by omega⟩, w32_id hi]
        by_cases c3 : M.m_pointSeries p = s
        · rw [if_pos c3]; exact mid (Or.inr c3)
        · rw [if_neg c3]; exact no (by unfold zq_isP zq_pg4; simp [c2, c3])
set_option maxRecDepth 100000 in
theorem zq_e_between {M : MS} (h : zq_mpI M) {s : Int} (hs : iR s) (a b : Int64) (pk : Bool) : s_Mo_between M s a b (if pk then 1 else 0) = some ((((zq_mpts M).countP (fun x => zq_isP s a b x && (!pk || x.2.2.2 == 1)) : Nat) : Int), M) := by
  have := zq_E_between h hs a b pk fU 0 0 (by omega) h.1 (zq_fU_gt (by have := h.2.1; omega))
  rw [Int.zero_add, Int.sub_zero] at this
  exact this
set_option maxRecDepth 100000 in
/-- the rows of the points -/
def zq_mpw (M : MS) (a : Int → Int) (b c : Int → Int64) (d : Int → Int) (n : Int) : MS := MS.w_m_points (MS.w_m_places (MS.w_m_pointValues (MS.w_m_pointTimes (MS.w_m_pointSeries M a) b) c) d) n
set_option maxRecDepth 100000 in
theorem zq_E_tidy {M : MS} (h0 : 0 ≤ M.m_points) (h8 : M.m_points ≤ 8192) (hpl : ∀ p, 0 ≤ p → p < M.m_points → 0 ≤ M.m_places p ∧ M.m_places p ≤ 2) : ∀ (k n : Nat) (p : Int) (a : Int → Int) (b c : Int → Int64) (d : Int → Int), (n : Int) ≤ p → p ≤ M.m_points → (M.m_points - p).toNat < k → (∀ j, p ≤ j → (a j, b j, c j, d j) = zq_pg4 M j) →
    ∃ a' b' c' d' n', q_Mo_tidy_4 k n p (zq_mpw M a b c d M.m_points) = some ((), zq_mpw M a' b' c' d' ((n' : Nat) : Int)) ∧ zq_gsl (fun j => (a' j, b' j, c' j, d' j)) n' 0 = zq_gsl (fun j => (a j, b j, c j, d j)) n 0 ++ (zq_gsl (zq_pg4 M) (M.m_points - p).toNat p).filter (fun x => !(x.2.2.2 == 2))
  | 0, n, p, a, b, c, d => by omega
  | k + 1, n, p, a, b, c, d => by
    intro hn hp hk ho
    rw [q_Mo_tidy_4, show (zq_mpw M a b c d M.m_points).m_points = M.m_points from rfl, show (zq_mpw M a b c d M.m_points).m_places = d from rfl, zq_w32i (z := M.m_points) (by omega) (by omega), zq_w32i (z := p) (by omega) (by omega)]
    by_cases c1 : M.m_points ≤ p
    · rw [if_pos c1, show (M.m_points - p).toNat = 0 by omega]
      exact ⟨a, b, c, d, n, rfl, by simp [zq_gsl]⟩
    · have e := ho p (Int.le_refl _)
      have ed : d p = M.m_places p := congrArg (fun x : zq_P4 => x.2.2.2) e
      have ea : a p = M.m_pointSeries p := congrArg (fun x : zq_P4 => x.1) e
      have eb : b p = M.m_pointTimes p := congrArg (fun x : zq_P4 => x.2.1) e
      have ec : c p = M.m_pointValues p := congrArg (fun x : zq_P4 => x.2.2.1) e
      have hb := hpl p (by omega) (by omega)
      rw [if_neg c1, if_pos ⟨by omega, by omega⟩, ed, zq_w32i (z := M.m_places p) (by omega) (by omega), show (M.m_points - p).toNat = (M.m_points - (p + 1)).toNat + 1 by omega, zq_gsl]
      by_cases c2 : M.m_places p = 2
      · rw [if_pos c2, List.filter_cons_of_neg (by simp [zq_pg4, c2])]
        exact zq_E_tidy h0 h8 hpl k n (p + 1) a b c d (by omega) (by omega) (by omega) (fun j hj => ho j (by omega))
      · rw [if_neg c2, List.filter_cons_of_pos (by simp [zq_pg4, c2])]
        rw [if_pos ⟨by omega, by omega⟩, if_pos ⟨by omega, by omega⟩, if_pos ⟨by omega, by omega⟩, if_pos ⟨by omega, by omega⟩, if_pos ⟨by omega, by omega⟩, if_pos ⟨by omega, by omega⟩, if_pos ⟨by omega, by omega⟩, if_pos ⟨by omega, by omega⟩, if_pos ⟨by omega, by omega⟩]
        obtain ⟨a', b', c', d', n', g1, g2⟩ := zq_E_tidy h0 h8 hpl k (n + 1) (p + 1) (aU a n (a p)) (aU b n (b p)) (aU c n (c p)) (aU d n (M.m_places p)) (by omega) (by omega) (by omega) (fun j hj => by
          unfold aU; rw [if_neg (by omega), if_neg (by omega), if_neg (by omega), if_neg (by omega)]; exact ho j (by omega))
        refine ⟨a', b', c', d', n', g1, ?_⟩
        rw [g2, zq_gsl_snoc, List.append_assoc]
        have e1 : zq_gsl (fun j => (aU a n (a p) j, aU b n (b p) j, aU c n (c p) j, aU d n (M.m_places p) j)) n 0 = zq_gsl (fun j => (a j, b j, c j, d j)) n 0 := zq_gsl_congr n 0 (fun j j1 j2 => by
          unfold aU; rw [if_neg (by omega), if_neg (by omega), if_neg (by omega), if_neg (by omega)])
        rw [e1]
        congr 1
        have e2 : (0 : Int) + (n : Int) = n := by omega
        rw [e2]
        unfold aU zq_pg4
        rw [if_pos rfl, if_pos rfl, if_pos rfl, if_pos rfl, ea, eb, ec]; rfl
set_option maxRecDepth 100000 in
theorem zq_e_tidy {M : MS} (h0 : 0 ≤ M.m_points) (h8 : M.m_points ≤ 8192) (hpl : ∀ p, 0 ≤ p → p < M.m_points → 0 ≤ M.m_places p ∧ M.m_places p ≤ 2) : ∃ a' b' c' d' n', s_Mo_tidy M = some ((), zq_mpw M a' b' c' d' ((n' : Nat) : Int)) ∧ zq_gsl (fun j => (a' j, b' j, c' j, d' j)) n' 0 = (zq_mpts M).filter (fun x => !(x.2.2.2 == 2)) := by
  obtain ⟨a', b', c', d', n', g1, g2⟩ := zq_E_tidy h0 h8 hpl fU 0 0 M.m_pointSeries M.m_pointTimes M.m_pointValues M.m_places (by omega) h0 (zq_fU_gt (by omega)) (fun j _ => rfl)
  rw [Int.sub_zero] at g2
  exact ⟨a', b', c', d', n', g1, by simpa [zq_gsl, zq_mpts] using g2⟩

set_option maxRecDepth 100000 in
/-- which points go -/
def zq_gone (s : Int) (a b : Int64) (l : List zq_P4) : List zq_P4 := l.filter (fun x => !(zq_isP s a b x))
set_option maxRecDepth 100000 in
theorem zq_E_go {M : MS} (h : zq_mpI M) {s : Int} (hs : iR s) (a b : Int64) : ∀ (k : Nat) (p : Int) (d : Int → Int) (hd : Int), 0 ≤ p → p ≤ M.m_points → (M.m_points - p).toNat < k → (∀ j, p ≤ j → d j = M.m_places j) →
    ∃ d', q_Mo_go_3 k s a b p (MS.w_m_head (MS.w_m_places M d) hd) = mb2 (s_Mo_tidy (MS.w_m_head (MS.w_m_places M d') (hd - ((zq_gsl (zq_pg4 M) (M.m_points - p).toNat p).countP (fun x => zq_isP s a b x && x.2.2.2 == 0) : Nat)))) (fun _ S => some ((), S)) ∧ (∀ j, j < p → d' j = d j) ∧ (∀ j, p ≤ j → j < M.m_points → d' j = if zq_isP s a b (zq_pg4 M j) then 2 else M.m_places j)
  | 0, p, d, hd => by omega
  | k + 1, p, d, hd => by
    intro h0 h1 hk ho
    have hb := h.1; have hb2 := h.2.1
    rw [q_Mo_go_3, show (MS.w_m_head (MS.w_m_places M d) hd).m_points = M.m_points from rfl, zq_w32i (z := M.m_points) (by omega) (by omega), zq_w32i (z := p) (by omega) (by omega)]
    by_cases c1 : M.m_points ≤ p
    · rw [if_pos c1, show (M.m_points - p).toNat = 0 by omega]
      exact ⟨d, by simp [zq_gsl], fun _ _ => rfl, fun j j1 j2 => by omega⟩
    · obtain ⟨hi, hp0, hp1⟩ := h.2.2 p h0 (by omega)
      have ed := ho p (Int.le_refl _)
      rw [if_neg c1, w32_id hs, show (M.m_points - p).toNat = (M.m_points - (p + 1)).toNat + 1 by omega, zq_gsl, List.countP_cons]
      have ih := fun (d2 : Int → Int) (hd2 : Int) (hh : ∀ j, p + 1 ≤ j → d2 j = M.m_places j) => zq_E_go h hs a b k (p + 1) d2 hd2 (by omega) (by omega) (by omega) hh
      have no : zq_isP s a b (zq_pg4 M p) = false → ∃ d', q_Mo_go_57 (q_Mo_go_3 k) s a b p (MS.w_m_head (MS.w_m_places M d) hd) = mb2 (s_Mo_tidy (MS.w_m_head (MS.w_m_places M d') (hd - (((zq_gsl (zq_pg4 M) (M.m_points - (p + 1)).toNat (p + 1)).countP (fun x => zq_isP s a b x && x.2.2.2 == 0) + (if (zq_isP s a b (zq_pg4 M p) && (zq_pg4 M p).2.2.2 == 0) = true then 1 else 0) : Nat) : Int)))) (fun _ S => some ((), S)) ∧ (∀ j, j < p → d' j = d j) ∧ (∀ j, p ≤ j → j < M.m_points → d' j = if zq_isP s a b (zq_pg4 M j) then 2 else M.m_places j) := fun e => by
        unfold q_Mo_go_57 q_Mo_go_58 q_Mo_go_84 q_Mo_go_85 q_Mo_go_111
        rw [if_pos (by decide), if_pos (by decide), if_pos ⟨by omega, by omega⟩, if_pos ⟨by omega, by omega⟩, show (MS.w_m_head (MS.w_m_places M d) hd).m_places p = M.m_places p from ed, if_pos ⟨by omega, by omega⟩]
        obtain ⟨d', g1, g2, g3⟩ := ih (aU d p (M.m_places p)) (hd - 0) (fun j hj => by unfold aU; rw [if_neg (by omega)]; exact ho j (by omega))
        refine ⟨d', ?_, fun j hj => ?_, fun j j1 j2 => ?_⟩
        · refine Eq.trans (show _ = q_Mo_go_3 k s a b (p + 1) (MS.w_m_head (MS.w_m_places M (aU d p (M.m_places p))) (hd - 0)) from rfl) ?_
          rw [g1, e]; simp
        · rw [g2 j (by omega)]; unfold aU; rw [if_neg (by omega)]
        · by_cases z : j = p
          · subst z; rw [g2 j (by omega), e]; unfold aU; simp
          · exact g3 j (by omega) j2
      have yes : zq_isP s a b (zq_pg4 M p) = true → ∃ d', q_Mo_go_58 (q_Mo_go_3 k) s a b p 1 (MS.w_m_head (MS.w_m_places M d) hd) = mb2 (s_Mo_tidy (MS.w_m_head (MS.w_m_places M d') (hd - (((zq_gsl (zq_pg4 M) (M.m_points - (p + 1)).toNat (p + 1)).countP (fun x => zq_isP s a b x && x.2.2.2 == 0) + (if (zq_isP s a b (zq_pg4 M p) && (zq_pg4 M p).2.2.2 == 0) = true then 1 else 0) : Nat) : Int)))) (fun _ S => some ((), S)) ∧ (∀ j, j < p → d' j = d j) ∧ (∀ j, p ≤ j → j < M.m_points → d' j = if zq_isP s a b (zq_pg4 M j) then 2 else M.m_places j) := fun e => by
        have key : ∀ z : Int, z = (if (zq_isP s a b (zq_pg4 M p) && (zq_pg4 M p).2.2.2 == 0) = true then 1 else 0) → ∃ d', q_Mo_go_85 (q_Mo_go_3 k) s a b p 1 z hd (MS.w_m_head (MS.w_m_places M d) hd) = mb2 (s_Mo_tidy (MS.w_m_head (MS.w_m_places M d') (hd - (((zq_gsl (zq_pg4 M) (M.m_points - (p + 1)).toNat (p + 1)).countP (fun x => zq_isP s a b x && x.2.2.2 == 0) + (if (zq_isP s a b (zq_pg4 M p) && (zq_pg4 M p).2.2.2 == 0) = true then 1 else 0) : Nat) : Int)))) (fun _ S => some ((), S)) ∧ (∀ j, j < p → d' j = d j) ∧ (∀ j, p ≤ j → j < M.m_points → d' j = if zq_isP s a b (zq_pg4 M j) then 2 else M.m_places j) := by
          intro z hz
          unfold q_Mo_go_85 q_Mo_go_111
          rw [if_neg (by decide), if_pos ⟨by omega, by omega⟩, if_pos (by decide)]
          obtain ⟨d', g1, g2, g3⟩ := ih (aU d p 2) (hd - z) (fun j hj => by unfold aU; rw [if_neg (by omega)]; exact ho j (by omega))
          refine ⟨d', ?_, fun j hj => ?_, fun j j1 j2 => ?_⟩
          · refine Eq.trans (show _ = q_Mo_go_3 k s a b (p + 1) (MS.w_m_head (MS.w_m_places M (aU d p 2)) (hd - z)) from rfl) ?_
            rw [g1]
            congr 3
            rw [hz]
            by_cases w : (zq_isP s a b (zq_pg4 M p) && (zq_pg4 M p).2.2.2 == 0) = true
            · rw [if_pos w, if_pos w]; omega
            · rw [if_neg w, if_neg w]; omega
          · rw [g2 j (by omega)]; unfold aU; rw [if_neg (by omega)]
          · by_cases z : j = p
            · subst z; rw [g2 j (by omega), e]; unfold aU; simp
            · exact g3 j (by omega) j2
        unfold q_Mo_go_58 q_Mo_go_84
        rw [if_neg (by decide), if_pos ⟨by omega, by omega⟩, show (MS.w_m_head (MS.w_m_places M d) hd).m_places p = M.m_places p from ed, zq_w32i (z := M.m_places p) (by omega) (by omega)]
        by_cases c5 : M.m_places p = 0
        · rw [if_pos c5]; exact key 1 (by rw [e]; simp [zq_pg4, c5])
        · rw [if_neg c5]; exact key 0 (by rw [e]; simp [zq_pg4, c5])
      have mid : (s = -1 ∨ M.m_pointSeries p = s) → ∃ d', q_Mo_go_28 (q_Mo_go_3 k) s a b p (MS.w_m_head (MS.w_m_places M d) hd) = mb2 (s_Mo_tidy (MS.w_m_head (MS.w_m_places M d') (hd - (((zq_gsl (zq_pg4 M) (M.m_points - (p + 1)).toNat (p + 1)).countP (fun x => zq_isP s a b x && x.2.2.2 == 0) + (if (zq_isP s a b (zq_pg4 M p) && (zq_pg4 M p).2.2.2 == 0) = true then 1 else 0) : Nat) : Int)))) (fun _ S => some ((), S)) ∧ (∀ j, j < p → d' j = d j) ∧ (∀ j, p ≤ j → j < M.m_points → d' j = if zq_isP s a b (zq_pg4 M j) then 2 else M.m_places j) := fun e => by
        unfold q_Mo_go_28
        rw [if_pos ⟨by omega, by omega⟩, show (MS.w_m_head (MS.w_m_places M d) hd).m_pointTimes p = M.m_pointTimes p from rfl]
        by_cases c3 : (M.m_pointTimes p).toInt < a.toInt
        · rw [if_pos c3]; exact no (by unfold zq_isP zq_pg4; simp; intro _ z; omega)
        · rw [if_neg c3, if_pos ⟨by omega, by omega⟩]
          by_cases c4 : b.toInt < (M.m_pointTimes p).toInt
          · rw [if_pos c4]; exact no (by unfold zq_isP zq_pg4; simp; intro _ z; omega)
          · rw [if_neg c4]; exact yes (by unfold zq_isP zq_pg4; simp; exact ⟨e, by omega, by omega⟩)
      by_cases c2 : s = -1
      · rw [if_pos c2]; exact mid (Or.inl c2)
      · rw [if_neg c2, if_pos ⟨by omega, by omega⟩, show (MS.w_m_head (MS.w_m_places M d) hd).m_pointSeries p = M.m_pointSeries p from rfl, w32_id hi]
        by_cases c3 : M.m_pointSeries p = s
        · rw [if_pos c3]; exact mid (Or.inr c3)
        · rw [if_neg c3]; exact no (by unfold zq_isP zq_pg4; simp [c2, c3])
set_option maxRecDepth 100000 in
theorem zq_filt_map {α : Type} (P : α → Bool) (Q : α → Bool) (f : α → α) (l : List α) (h : ∀ x ∈ l, Q (f x) = !(P x)) (h2 : ∀ x ∈ l, P x = false → f x = x) : (l.map f).filter Q = l.filter (fun x => !(P x)) := by
  induction l with
  | nil => rfl
  | cons x xs ih =>
    have ihx := ih (fun y hy => h y (List.mem_cons_of_mem _ hy)) (fun y hy => h2 y (List.mem_cons_of_mem _ hy))
    rw [List.map_cons, List.filter_cons, List.filter_cons, h x (by simp), ihx]
    cases hp : P x with
    | true => simp
    | false => simp [h2 x (by simp) hp]
set_option maxRecDepth 100000 in
theorem zq_gsl_map {α β : Type} (g : Int → α) (f : α → β) : ∀ (m : Nat) (p : Int), (zq_gsl g m p).map f = zq_gsl (fun j => f (g j)) m p
  | 0, _ => rfl
  | m + 1, p => by rw [zq_gsl, zq_gsl, List.map_cons, zq_gsl_map]
set_option maxRecDepth 100000 in
/-- what going does to the points -/
theorem zq_e_go {M : MS} (h : zq_mpI M) {s : Int} (hs : iR s) (a b : Int64) : ∃ a' b' c' d' n', s_Mo_go M s a b = some ((), MS.w_m_head (zq_mpw M a' b' c' d' ((n' : Nat) : Int)) (M.m_head - ((zq_mpts M).countP (fun x => zq_isP s a b x && x.2.2.2 == 0) : Nat))) ∧ zq_gsl (fun j => (a' j, b' j, c' j, d' j)) n' 0 = zq_gone s a b (zq_mpts M) := by
  have hb := h.1; have hb2 := h.2.1
  obtain ⟨d, g1, g2, g3⟩ := zq_E_go h hs a b fU 0 M.m_places M.m_head (by omega) h.1 (zq_fU_gt (by omega)) (fun _ _ => rfl)
  rw [Int.sub_zero] at g1
  have hd : ∀ p, 0 ≤ p → p < M.m_points → 0 ≤ d p ∧ d p ≤ 2 := fun p p0 p1 => by
    rw [g3 p p0 p1]; have := h.2.2 p p0 p1; split <;> omega
  obtain ⟨a', b', c', d', n', t1, t2⟩ := zq_e_tidy (M := MS.w_m_head (MS.w_m_places M d) (M.m_head - ((zq_gsl (zq_pg4 M) M.m_points.toNat 0).countP (fun x => zq_isP s a b x && x.2.2.2 == 0) : Nat))) hb hb2 hd
  refine ⟨a', b', c', d', n', ?_, ?_⟩
  · refine Eq.trans (show s_Mo_go M s a b = q_Mo_go_3 fU s a b 0 (MS.w_m_head (MS.w_m_places M M.m_places) M.m_head) from rfl) ?_
    rw [g1]
    exact (zq_mb2_eq t1).trans rfl
  · rw [t2]
    have e : zq_mpts (MS.w_m_head (MS.w_m_places M d) (M.m_head - ((zq_gsl (zq_pg4 M) M.m_points.toNat 0).countP (fun x => zq_isP s a b x && x.2.2.2 == 0) : Nat))) = (zq_mpts M).map (fun x => if zq_isP s a b x then (x.1, x.2.1, x.2.2.1, 2) else x) := by
      unfold zq_mpts
      rw [zq_gsl_map]
      refine zq_gsl_congr _ 0 (fun j j1 j2 => ?_)
      show (M.m_pointSeries j, M.m_pointTimes j, M.m_pointValues j, d j) = _
      have j3 : j < 0 + ((M.m_points.toNat : Nat) : Int) := j2
      rw [g3 j j1 (by omega)]
      split <;> rfl
    rw [e]
    unfold zq_gone
    refine zq_filt_map (zq_isP s a b) _ _ _ (fun x hx => ?_) (fun x hx hf => ?_)
    · obtain ⟨j, j1, j2, rfl⟩ := zq_gsl_mem hx
      have hj : j < M.m_points := by have : (M.m_points.toNat : Int) = M.m_points := by omega
                                     omega
      have := h.2.2 j j1 hj
      by_cases w : zq_isP s a b (zq_pg4 M j) = true
      · rw [if_pos w, w]; rfl
      · rw [if_neg w]; simp at w; rw [w]
        have : ¬ M.m_places j = 2 := by omega
        simp [zq_pg4, this]
    · rw [hf]; simp
/-! ===== the program's points ===== -/
set_option maxRecDepth 100000 in
abbrev zq_P3 : Type := Int64 × Int64 × Int
set_option maxRecDepth 100000 in
def zq_cp3 (S : WS) (i : Nat) (j : Int) : zq_P3 := (S.pt_times i j, S.pt_values i j, if j < S.pt_packed i then 1 else 0)
set_option maxRecDepth 100000 in
def zq_cpts (S : WS) (i : Nat) : List zq_P3 := zq_gsl (zq_cp3 S i) (S.pt_size i).toNat 0
set_option maxRecDepth 100000 in
def zq_ptI (c : CW) (S : WS) (i : Nat) : Prop := (0 ≤ S.pt_packed i ∧ S.pt_packed i ≤ S.pt_size i ∧ S.pt_size i ≤ c.pc i ∧ S.pt_size i ≤ c.pv i ∧ S.pt_size i ≤ 8192) ∧ (∀ a b, 0 ≤ a → a < b → b < S.pt_size i → (S.pt_times i a).toInt < (S.pt_times i b).toInt) ∧ c.pc i ≤ 100000 ∧ c.pv i ≤ 100000
set_option maxRecDepth 100000 in
theorem zq_gDiv2 {a : Int} (h0 : 0 ≤ a) (h1 : a ≤ 1000000) : gDiv a 2 = a / 2 := by
  unfold gDiv
  rw [ii_div ⟨by omega, by omega⟩ ⟨by omega, by omega⟩ h0 (by omega), ii_toInt ⟨by omega, by omega⟩]
set_option maxRecDepth 100000 in
theorem zq_e_timeAt {c : CW} {S : WS} {i : Nat} (h : zq_ptI c S i) {j : Int} (h0 : 0 ≤ j) (h1 : j < S.pt_size i) : s_Pt_timeAt c S i j = some (S.pt_times i j, S) := by
  have a := h.1
  unfold s_Pt_timeAt
  rw [zq_w32i (by omega) (by omega), zq_w32i (by omega) (by omega), if_neg (by omega), if_neg (by omega), if_pos ⟨h0, by omega⟩]
set_option maxRecDepth 100000 in
theorem zq_E_firstFrom {c : CW} {S : WS} {i : Nat} (h : zq_ptI c S i) (t : Int64) : ∀ (m k : Nat) (lo hi tn : Int), m ≤ 32 → tn = 32 - m → m < k → 0 ≤ lo → lo ≤ hi → hi ≤ S.pt_size i → hi - lo < (2 ^ m : Nat) → (∀ j, 0 ≤ j → j < lo → (S.pt_times i j).toInt < t.toInt) → (∀ j, hi ≤ j → j < S.pt_size i → t.toInt ≤ (S.pt_times i j).toInt) →
    ∃ r, q_Pt_firstFrom_11 c k i t lo hi tn S = some (r, S) ∧ 0 ≤ r ∧ r ≤ S.pt_size i ∧ (∀ j, 0 ≤ j → j < r → (S.pt_times i j).toInt < t.toInt) ∧ (∀ j, r ≤ j → j < S.pt_size i → t.toInt ≤ (S.pt_times i j).toInt)
  | m, 0, lo, hi, tn => by omega
  | m, k + 1, lo, hi, tn => by
    intro hm ht hk h0 h1 h2 h3 hA hB
    have a := h.1
    rw [q_Pt_firstFrom_11, zq_w32i (z := tn) (by omega) (by omega), zq_w32i (z := lo) (by omega) (by omega), zq_w32i (z := hi) (by omega) (by omega)]
    by_cases c1 : hi ≤ lo
    · have e : hi = lo := by omega
      rw [if_pos c1, ite_self]
      exact ⟨lo, rfl, h0, by omega, hA, fun j j1 j2 => hB j (by omega) j2⟩
    · cases m with
      | zero => simp at h3; omega
      | succ m =>
        have e2 : (2 ^ (m + 1) : Nat) = 2 * 2 ^ m := by rw [Nat.pow_succ]; omega
        rw [if_neg (by omega), if_neg c1, zq_gDiv2 (by omega) (by omega)]
        have hmid0 : lo ≤ (lo + hi) / 2 := by omega
        have hmid1 : (lo + hi) / 2 < hi := by omega
        refine (fun z => ?_ : (∃ r, (if t.toInt ≤ (S.pt_times i ((lo + hi) / 2)).toInt then q_Pt_firstFrom_55 c (q_Pt_firstFrom_11 c k) i t lo ((lo + hi) / 2) tn S else q_Pt_firstFrom_55 c (q_Pt_firstFrom_11 c k) i t ((lo + hi) / 2 + 1) hi tn S) = some (r, S) ∧ 0 ≤ r ∧ r ≤ S.pt_size i ∧ (∀ j, 0 ≤ j → j < r → (S.pt_times i j).toInt < t.toInt) ∧ (∀ j, r ≤ j → j < S.pt_size i → t.toInt ≤ (S.pt_times i j).toInt)) → _) ?_
        · obtain ⟨r, r1, r2⟩ := z
          exact ⟨r, (zq_mb2_eq (zq_e_timeAt h (j := (lo + hi) / 2) (by omega) (by omega))).trans r1, r2⟩
        · by_cases c2 : t.toInt ≤ (S.pt_times i ((lo + hi) / 2)).toInt
          · rw [if_pos c2, q_Pt_firstFrom_55]
            refine zq_E_firstFrom h t m k lo ((lo + hi) / 2) (tn + 1) (by omega) (by omega) (by omega) h0 hmid0 (by omega) (by omega) hA (fun j j1 j2 => ?_)
            by_cases z : j = (lo + hi) / 2
            · rw [z]; exact c2
            · have := h.2.1 ((lo + hi) / 2) j (by omega) (by omega) j2; omega
          · rw [if_neg c2, q_Pt_firstFrom_55]
            refine zq_E_firstFrom h t m k ((lo + hi) / 2 + 1) hi (tn + 1) (by omega) (by omega) (by omega) (by omega) (by omega) h2 (by omega) (fun j j1 j2 => ?_) hB
            by_cases z : j = (lo + hi) / 2
            · rw [z]; omega
            · have := h.2.1 j ((lo + hi) / 2) j1 (by omega) (by omega); omega
set_option maxRecDepth 100000 in
theorem zq_e_firstFrom {c : CW} {S : WS} {i : Nat} (h : zq_ptI c S i) (t : Int64) : ∃ r, s_Pt_firstFrom c S i t = some (r, S) ∧ 0 ≤ r ∧ r ≤ S.pt_size i ∧ (∀ j, 0 ≤ j → j < r → (S.pt_times i j).toInt < t.toInt) ∧ (∀ j, r ≤ j → j < S.pt_size i → t.toInt ≤ (S.pt_times i j).toInt) :=
  zq_E_firstFrom h t 32 fU 0 (S.pt_size i) 0 (by omega) (by omega) (zq_fU_gt (by omega)) (by omega) (by have := h.1; omega) (by omega) (by have := h.1; simp; omega) (fun j j1 j2 => by omega) (fun j j1 j2 => by omega)
set_option maxRecDepth 100000 in
def zq_pkA (S : WS) (i : Nat) (f b : Int) : Int := max 0 (min b (S.pt_packed i) - f)
set_option maxRecDepth 100000 in
theorem zq_e_packedAmong {c : CW} {S : WS} {i : Nat} (h : zq_ptI c S i) {f b : Int} (hf : 0 ≤ f ∧ f ≤ 100000) (hb : 0 ≤ b ∧ b ≤ 100000) : s_Pt_packedAmong c S i f b = some (zq_pkA S i f b, S) := by
  have a := h.1
  unfold s_Pt_packedAmong zq_pkA
  rw [zq_w32i (z := b) (by omega) (by omega), zq_w32i (z := S.pt_packed i) (by omega) (by omega), zq_w32i (by omega) (by omega)]
set_option maxRecDepth 100000 in
/-- points first .. behind - 1 of a series are zq_gone -/
def zq_rmv (S : WS) (i : Nat) (f b : Int) : WS := WS.w_pt_size (WS.w_pt_values (WS.w_pt_times (WS.w_pt_packed S (nU S.pt_packed i (S.pt_packed i - zq_pkA S i f b))) (nU S.pt_times i (aC (S.pt_times i) b f (S.pt_size i - b)))) (nU S.pt_values i (aC (S.pt_values i) b f (S.pt_size i - b)))) (nU S.pt_size i (S.pt_size i - (b - f)))
set_option maxRecDepth 100000 in
theorem zq_e_remove {c : CW} {S : WS} {i : Nat} (h : zq_ptI c S i) {f b : Int} (hf : 0 ≤ f) (hfb : f < b) (hb : b ≤ S.pt_size i) : s_Pt_remove c S i f b = some ((), zq_rmv S i f b) := by
  have a := h.1
  unfold s_Pt_remove
  rw [zq_w32i (z := f) (by omega) (by omega), zq_w32i (z := b) (by omega) (by omega), zq_w32i (z := S.pt_size i) (by omega) (by omega), if_neg (by omega), if_neg (by omega), if_pos hb]
  refine (zq_mb2_eq (zq_e_packedAmong h (by omega) (by omega))).trans ?_
  rw [if_pos ⟨by omega, hf, by omega, by omega, by omega⟩, if_pos ⟨by omega, hf, by omega, by omega, by omega⟩]; rfl
set_option maxRecDepth 100000 in
def zq_ltg (S : WS) (i : Nat) (f b : Int) : WS := if f < b then zq_rmv (WS.w_st_headSize S (S.st_headSize - (b - f - zq_pkA S i f b))) i f b else S
set_option maxRecDepth 100000 in
theorem zq_e_letGo {c : CW} {S : WS} {i : Nat} (h : zq_ptI c S i) {f b : Int} (hf : 0 ≤ f ∧ f ≤ S.pt_size i) (hb : 0 ≤ b ∧ b ≤ S.pt_size i) : s_St_letGo c S i f b = some (max 0 (b - f), zq_ltg S i f b) := by
  have a := h.1
  unfold s_St_letGo zq_ltg
  rw [zq_w32i (z := f) (by omega) (by omega), zq_w32i (z := b) (by omega) (by omega)]
  by_cases c1 : f < b
  · rw [if_pos c1, if_pos c1]
    refine (zq_mb2_eq (zq_e_packedAmong h (by omega) (by omega))).trans ?_
    refine (zq_mb2_eq (zq_e_remove (S := WS.w_st_headSize S (S.st_headSize - (b - f - zq_pkA S i f b))) h (by omega) c1 hb.2)).trans ?_
    rw [show max 0 (b - f) = b - f by omega]
  · rw [if_neg c1, if_neg c1, show max 0 (b - f) = 0 by omega]
set_option maxRecDepth 100000 in
theorem zq_rmv_cpts {c : CW} {S : WS} {i : Nat} (h : zq_ptI c S i) {f b : Int} (hf : 0 ≤ f) (hfb : f < b) (hb : b ≤ S.pt_size i) : zq_cpts (zq_rmv S i f b) i = zq_gsl (zq_cp3 S i) f.toNat 0 ++ zq_gsl (zq_cp3 S i) (S.pt_size i - b).toNat b := by
  have a := h.1
  unfold zq_cpts
  have e1 : (zq_rmv S i f b).pt_size i = S.pt_size i - (b - f) := by show nU S.pt_size i _ i = _; unfold nU; rw [if_pos rfl]
  rw [e1, show (S.pt_size i - (b - f)).toNat = f.toNat + (S.pt_size i - b).toNat by omega, zq_gsl_app]
  have ep : zq_pkA S i f b = max 0 (min b (S.pt_packed i) - f) := rfl
  have e3 : ∀ j, zq_cp3 (zq_rmv S i f b) i j = (aC (S.pt_times i) b f (S.pt_size i - b) j, aC (S.pt_values i) b f (S.pt_size i - b) j, if j < S.pt_packed i - zq_pkA S i f b then 1 else 0) := fun j => by
    show (nU S.pt_times i _ i j, nU S.pt_values i _ i j, if j < nU S.pt_packed i _ i then 1 else 0) = _
    unfold nU; rw [if_pos rfl, if_pos rfl, if_pos rfl]
  congr 1
  · refine zq_gsl_congr _ _ (fun j j1 j2 => ?_)
    rw [e3]; unfold aC zq_cp3
    rw [if_neg (by omega), if_neg (by omega)]
    by_cases z : j < S.pt_packed i
    · rw [if_pos z, if_pos (by omega)]
    · rw [if_neg z, if_neg (by omega)]
  · have key : ∀ (m : Nat) (p : Int), f ≤ p → p + m ≤ f + (S.pt_size i - b) → zq_gsl (zq_cp3 (zq_rmv S i f b) i) m p = zq_gsl (zq_cp3 S i) m (p + (b - f)) := by
      intro m
      induction m with
      | zero => intro p _ _; rfl
      | succ m ih =>
        intro p p1 p2
        rw [zq_gsl, zq_gsl, ih (p + 1) (by omega) (by omega), e3]
        congr 1
        · unfold aC zq_cp3
          rw [if_pos ⟨by omega, by omega⟩, if_pos ⟨by omega, by omega⟩, show b + (p - f) = p + (b - f) by omega]
          by_cases z : p + (b - f) < S.pt_packed i
          · rw [if_pos z, if_pos (by omega)]
          · rw [if_neg z, if_neg (by omega)]
        · congr 1; omega
    rw [key (S.pt_size i - b).toNat (0 + (f.toNat : Int)) (by omega) (by omega)]
    congr 1; omega
set_option maxRecDepth 100000 in
theorem zq_cut_filter {α : Type} {g : Int → α} {P : α → Bool} {n f b : Int} (h0 : 0 ≤ f) (h1 : f ≤ b) (h2 : b ≤ n) (hP : ∀ j, 0 ≤ j → j < n → (P (g j) = true ↔ f ≤ j ∧ j < b)) : (zq_gsl g n.toNat 0).filter (fun x => !(P x)) = zq_gsl g f.toNat 0 ++ zq_gsl g (n - b).toNat b ∧ ∀ Q : α → Bool, (zq_gsl g n.toNat 0).countP (fun x => P x && Q x) = (zq_gsl g (b - f).toNat f).countP Q := by
  have e : zq_gsl g n.toNat 0 = zq_gsl g f.toNat 0 ++ (zq_gsl g (b - f).toNat f ++ zq_gsl g (n - b).toNat b) := by
    rw [show n.toNat = f.toNat + ((b - f).toNat + (n - b).toNat) by omega, zq_gsl_app, zq_gsl_app, show (0 : Int) + (f.toNat : Int) = f by omega, show f + ((b - f).toNat : Int) = b by omega]
  have a1 : ∀ x ∈ zq_gsl g f.toNat 0, P x = false := fun x hx => by
    obtain ⟨j, j1, j2, rfl⟩ := zq_gsl_mem hx
    have := hP j j1 (by omega)
    cases hp : P (g j) with
    | false => rfl
    | true => have := this.mp hp; omega
  have a2 : ∀ x ∈ zq_gsl g (b - f).toNat f, P x = true := fun x hx => by
    obtain ⟨j, j1, j2, rfl⟩ := zq_gsl_mem hx
    exact (hP j (by omega) (by omega)).mpr ⟨by omega, by omega⟩
  have a3 : ∀ x ∈ zq_gsl g (n - b).toNat b, P x = false := fun x hx => by
    obtain ⟨j, j1, j2, rfl⟩ := zq_gsl_mem hx
    have := hP j (by omega) (by omega)
    cases hp : P (g j) with
    | false => rfl
    | true => have := this.mp hp; omega
  rw [e]
  constructor
  · rw [List.filter_append, List.filter_append, List.filter_eq_self.mpr (fun x hx => by simp [a1 x hx]), List.filter_eq_nil_iff.mpr (fun x hx => by simp [a2 x hx]), List.filter_eq_self.mpr (fun x hx => by simp [a3 x hx]), List.nil_append]
  · intro Q
    rw [List.countP_append, List.countP_append]
    have b1 : (zq_gsl g f.toNat 0).countP (fun x => P x && Q x) = 0 := List.countP_eq_zero.mpr (fun x hx => by simp [a1 x hx])
    have b3 : (zq_gsl g (n - b).toNat b).countP (fun x => P x && Q x) = 0 := List.countP_eq_zero.mpr (fun x hx => by simp [a3 x hx])
    have b2 : (zq_gsl g (b - f).toNat f).countP (fun x => P x && Q x) = (zq_gsl g (b - f).toNat f).countP Q := List.countP_congr (fun x hx => by simp [a2 x hx])
    rw [b1, b2, b3]; omega
set_option maxRecDepth 100000 in
def zq_d3 (x : zq_P4) : zq_P3 := (x.2.1, x.2.2.1, x.2.2.2)
set_option maxRecDepth 100000 in
def zq_inR (a b : Int64) (y : zq_P3) : Bool := decide (a.toInt ≤ y.1.toInt ∧ y.1.toInt ≤ b.toInt)
set_option maxRecDepth 100000 in
def zq_serP (s : Int) (l : List zq_P4) : List zq_P3 := (l.filter (fun x => x.1 == s)).map zq_d3
set_option maxRecDepth 100000 in
theorem zq_isP_ser {s : Int} (hs : 0 ≤ s) (a b : Int64) (x : zq_P4) : zq_isP s a b x = (x.1 == s && zq_inR a b (zq_d3 x)) := by
  unfold zq_isP zq_inR zq_d3
  have hn : ¬ s = -1 := by omega
  by_cases c : x.1 = s
  · simp [c]
  · simp [c, hn]
set_option maxRecDepth 100000 in
theorem zq_isP_all (a b : Int64) (x : zq_P4) : zq_isP (-1) a b x = zq_inR a b (zq_d3 x) := by
  unfold zq_isP zq_inR zq_d3; simp
set_option maxRecDepth 100000 in
theorem zq_cnt_ser {s : Int} (a b : Int64) (Q : zq_P3 → Bool) (P : zq_P4 → Bool) : ∀ (l : List zq_P4), (∀ x ∈ l, P x = (x.1 == s && zq_inR a b (zq_d3 x))) → l.countP (fun x => P x && Q (zq_d3 x)) = (zq_serP s l).countP (fun y => zq_inR a b y && Q y)
  | [], _ => rfl
  | x :: xs, h => by
    have ih := zq_cnt_ser a b Q P xs (fun y hy => h y (List.mem_cons_of_mem _ hy))
    unfold zq_serP at *
    rw [List.countP_cons, ih, h x (by simp), List.filter_cons]
    by_cases c : (x.1 == s) = true
    · rw [if_pos c, List.map_cons, List.countP_cons, c, Bool.true_and]
    · rw [if_neg c]; simp at c; simp [c]
set_option maxRecDepth 100000 in
theorem zq_gone_ser {s : Int} (hs : 0 ≤ s) (a b : Int64) : ∀ (l : List zq_P4), zq_serP s (zq_gone s a b l) = (zq_serP s l).filter (fun y => !(zq_inR a b y))
  | [] => rfl
  | x :: xs => by
    have ih := zq_gone_ser hs a b xs
    unfold zq_serP zq_gone at *
    rw [List.filter_cons, zq_isP_ser hs]
    by_cases c : x.1 = s
    · have c' : (x.1 == s) = true := by simp [c]
      rw [List.filter_cons (x := x) (xs := xs), if_pos c', List.map_cons, List.filter_cons, c', Bool.true_and]
      cases hr : zq_inR a b (zq_d3 x) with
      | true => simp; simpa using ih
      | false => simp [c]; simpa using ih
    · have c' : (x.1 == s) = false := by simp [c]
      rw [List.filter_cons (x := x) (xs := xs), c', Bool.false_and]
      simp [c]; simpa using ih
set_option maxRecDepth 100000 in
theorem zq_gone_other {s s' : Int} (hs : 0 ≤ s) (hne : s' ≠ s) (a b : Int64) : ∀ (l : List zq_P4), zq_serP s' (zq_gone s a b l) = zq_serP s' l
  | [] => rfl
  | x :: xs => by
    have ih := zq_gone_other hs hne a b xs
    unfold zq_serP zq_gone at *
    rw [List.filter_cons, zq_isP_ser hs]
    by_cases c : x.1 = s
    · have c2 : (x.1 == s') = false := by simp [c]; omega
      rw [List.filter_cons (x := x) (xs := xs), c2]
      cases hr : zq_inR a b (zq_d3 x) with
      | true => simp [c]; simpa using ih
      | false => simp [c]; rw [List.filter_cons, show (x.1 == s') = false from c2]; simpa using ih
    · have c' : (x.1 == s) = false := by simp [c]
      rw [c', Bool.false_and, if_pos (by decide), List.filter_cons, List.filter_cons (x := x) (xs := xs)]
      by_cases c3 : (x.1 == s') = true
      · rw [if_pos c3, if_pos c3, List.map_cons, List.map_cons, ih]
      · rw [if_neg c3, if_neg c3]; exact ih
set_option maxRecDepth 100000 in
theorem zq_gone_all {s' : Int} (a b : Int64) : ∀ (l : List zq_P4), zq_serP s' (zq_gone (-1) a b l) = (zq_serP s' l).filter (fun y => !(zq_inR a b y))
  | [] => rfl
  | x :: xs => by
    have ih := zq_gone_all (s' := s') a b xs
    unfold zq_serP zq_gone at *
    rw [List.filter_cons, zq_isP_all]
    by_cases c : (x.1 == s') = true
    · rw [List.filter_cons (x := x) (xs := xs), if_pos c, List.map_cons, List.filter_cons]
      cases hr : zq_inR a b (zq_d3 x) with
      | true => simp; simpa using ih
      | false => simp; rw [List.filter_cons, if_pos c, List.map_cons]; simpa using ih
    · rw [List.filter_cons (x := x) (xs := xs), if_neg c]
      cases hr : zq_inR a b (zq_d3 x) with
      | true => simp; simpa using ih
      | false => simp; rw [List.filter_cons, if_neg c]; simpa using ih
set_option maxRecDepth 100000 in
/-- a series' points between two times -/
theorem zq_e_range {c : CW} {S : WS} {i : Nat} (h : zq_ptI c S i) (htm : ∀ j, 0 ≤ j → j < S.pt_size i → 0 ≤ (S.pt_times i j).toInt ∧ (S.pt_times i j).toInt ≤ 1099511627775) (a b : Int64) (hab : a.toInt ≤ b.toInt) :
    ∃ f g, s_Pt_firstFrom c S i a = some (f, S) ∧ s_Pt_firstFrom c S i (ll (min b.toInt 1099511627775) + ll 1) = some (g, S) ∧ 0 ≤ f ∧ f ≤ g ∧ g ≤ S.pt_size i ∧ ∀ j, 0 ≤ j → j < S.pt_size i → (zq_inR a b (zq_cp3 S i j) = true ↔ f ≤ j ∧ j < g) := by
  obtain ⟨f, f1, f2, f3, f4, f5⟩ := zq_e_firstFrom h a
  obtain ⟨g, g1, g2, g3, g4, g5⟩ := zq_e_firstFrom h (ll (min b.toInt 1099511627775) + ll 1)
  have hR := ll_R b
  have et : (ll (min b.toInt 1099511627775) + ll 1).toInt = min b.toInt 1099511627775 + 1 := by
    rw [ll_add, ll_toInt ⟨by omega, by omega⟩]
  rw [et] at g4 g5
  refine ⟨f, g, f1, g1, f2, ?_, g3, fun j j0 j1 => ?_⟩
  · by_cases z : f ≤ g
    · exact z
    · have := f4 g g2 (by omega)
      have q := g5 g (Int.le_refl _) (by omega)
      have r := ll_R a
      have t := htm g g2 (by omega)
      omega
  · have t := htm j j0 j1
    unfold zq_inR zq_cp3
    simp only [decide_eq_true_eq]
    constructor
    · rintro ⟨z1, z2⟩
      constructor
      · by_cases w : f ≤ j
        · exact w
        · have := f4 j j0 (by omega); omega
      · by_cases w : j < g
        · exact w
        · have := g5 j (by omega) j1; omega
    · rintro ⟨z1, z2⟩
      have q1 := f5 j z1 j1
      have q2 := g4 j j0 z2
      omega
