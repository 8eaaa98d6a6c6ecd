/-! ===== ints and longs by their whole numbers ===== -/
def ii (z : Int) : Int32 := Int32.ofInt z
def ll (z : Int) : Int64 := Int64.ofInt z
/-- the numbers of an int, of a long -/
abbrev iR (z : Int) : Prop := -2147483648 ≤ z ∧ z ≤ 2147483647
abbrev lR (z : Int) : Prop := -9223372036854775808 ≤ z ∧ z ≤ 9223372036854775807
theorem ii_toInt {z : Int} (h : iR z) : (ii z).toInt = z := Int32.toInt_ofInt_of_le (by have := h.1; omega) (by have := h.2; omega)
theorem ll_toInt {z : Int} (h : lR z) : (ll z).toInt = z := Int64.toInt_ofInt_of_le (by have := h.1; omega) (by have := h.2; omega)
theorem ii_of (x : Int32) : ii x.toInt = x := Int32.ofInt_toInt x
theorem ll_of (x : Int64) : ll x.toInt = x := Int64.ofInt_toInt x
theorem ii_R (x : Int32) : iR x.toInt := by
  have h1 := Int32.toInt_lt x
  have h2 := Int32.le_toInt x
  constructor <;> omega
theorem ll_R (x : Int64) : lR x.toInt := by
  have h1 := Int64.toInt_lt x
  have h2 := Int64.le_toInt x
  constructor <;> omega
theorem ii_ex (x : Int32) : ∃ z : Int, iR z ∧ x = ii z := ⟨x.toInt, ii_R x, (ii_of x).symm⟩
theorem ll_ex (x : Int64) : ∃ z : Int, lR z ∧ x = ll z := ⟨x.toInt, ll_R x, (ll_of x).symm⟩
theorem ii_add (a b : Int) : ii a + ii b = ii (a + b) := (Int32.ofInt_add a b).symm
theorem ii_sub (a b : Int) : ii a - ii b = ii (a - b) := (Int32.ofInt_sub a b).symm
theorem ii_mul (a b : Int) : ii a * ii b = ii (a * b) := (Int32.ofInt_mul a b).symm
theorem ii_neg (a : Int) : -ii a = ii (-a) := (Int32.ofInt_neg a).symm
theorem ll_add (a b : Int) : ll a + ll b = ll (a + b) := (Int64.ofInt_add a b).symm
theorem ll_sub (a b : Int) : ll a - ll b = ll (a - b) := (Int64.ofInt_sub a b).symm
theorem ll_mul (a b : Int) : ll a * ll b = ll (a * b) := (Int64.ofInt_mul a b).symm
theorem ll_neg (a : Int) : -ll a = ll (-a) := (Int64.ofInt_neg a).symm
theorem ii_eq {a b : Int} (ha : iR a) (hb : iR b) : ii a = ii b ↔ a = b := by
  constructor
  · intro h
    have := congrArg Int32.toInt h
    rwa [ii_toInt ha, ii_toInt hb] at this
  · intro h; rw [h]
theorem ii_lt {a b : Int} (ha : iR a) (hb : iR b) : ii a < ii b ↔ a < b := by rw [Int32.lt_iff_toInt_lt, ii_toInt ha, ii_toInt hb]
theorem ii_le {a b : Int} (ha : iR a) (hb : iR b) : ii a ≤ ii b ↔ a ≤ b := by rw [Int32.le_iff_toInt_le, ii_toInt ha, ii_toInt hb]
theorem ll_eq {a b : Int} (ha : lR a) (hb : lR b) : ll a = ll b ↔ a = b := by
  constructor
  · intro h
    have := congrArg Int64.toInt h
    rwa [ll_toInt ha, ll_toInt hb] at this
  · intro h; rw [h]
theorem ll_lt {a b : Int} (ha : lR a) (hb : lR b) : ll a < ll b ↔ a < b := by rw [Int64.lt_iff_toInt_lt, ll_toInt ha, ll_toInt hb]
theorem ll_le {a b : Int} (ha : lR a) (hb : lR b) : ll a ≤ ll b ↔ a ≤ b := by rw [Int64.le_iff_toInt_le, ll_toInt ha, ll_toInt hb]
theorem ii_0 : ii 0 = 0 := by decide +kernel
theorem ii_1 : ii 1 = 1 := by decide +kernel
theorem ii_m1 : ii (-1) = -1 := by decide +kernel
theorem ll_0 : ll 0 = 0 := by decide +kernel
theorem ll_1 : ll 1 = 1 := by decide +kernel
theorem ii_clamp {z : Int} (h : iR z) : (ii z).toNatClampNeg = z.toNat := by
  have : (ii z).toNatClampNeg = (ii z).toInt.toNat := rfl
  rw [this, ii_toInt h]
theorem ii_in {z n : Int} (h0 : 0 ≤ z) (h1 : z < n) (hn : n ≤ 2147483647) : vp_in (ii z) n.toNat := by
  have hR : iR z := ⟨by omega, by omega⟩
  unfold vp_in
  rw [ii_clamp hR, ← ii_0, ii_lt hR ⟨by omega, by omega⟩]
  omega
theorem ii_len {n : Int} (h0 : 0 ≤ n) : (Int32.ofNat n.toNat) = ii n := by
  unfold ii
  rw [← Int32.ofInt_eq_ofNat]
  congr 1
  omega
theorem ii_nneg {z : Int} (h : iR z) (h0 : 0 ≤ z) : ¬ ii z < 0 := by
  rw [← ii_0, ii_lt h ⟨by omega, by omega⟩]
  omega
theorem ii_l {z : Int} (h : iR z) : (ii z).toInt64 = ll z := by
  have : (ii z).toInt64 = ll (ii z).toInt := rfl
  rw [this, ii_toInt h]
theorem ll_i (z : Int) : (ll z).toInt32 = ii z := by
  apply Int32.toInt_inj.mp
  simp [ll, ii, Int64.toInt_toInt32]
theorem ii_div {a b : Int} (ha : iR a) (hb : iR b) (h0 : 0 ≤ a) (h1 : 0 < b) : ii a / ii b = ii (a / b) := by
  apply Int32.toInt_inj.mp
  have hd : 0 ≤ a / b := Int.ediv_nonneg h0 (by omega)
  have hd2 : a / b ≤ a := Int.ediv_le_self b h0
  have := ha.2
  rw [Int32.toInt_div_of_ne_right _ _ (by rw [← ii_m1]; intro e; rw [ii_eq hb ⟨by omega, by omega⟩] at e; omega), ii_toInt ha, ii_toInt hb, ii_toInt ⟨by omega, by omega⟩, Int.tdiv_eq_ediv_of_nonneg h0]
theorem ll_div {a b : Int} (ha : lR a) (hb : lR b) (h0 : 0 ≤ a) (h1 : 0 < b) : ll a / ll b = ll (a / b) := by
  apply Int64.toInt_inj.mp
  have hd : 0 ≤ a / b := Int.ediv_nonneg h0 (by omega)
  have hd2 : a / b ≤ a := Int.ediv_le_self b h0
  have := ha.2
  rw [Int64.toInt_div_of_ne_right _ _ (by rw [show (-1 : Int64) = ll (-1) from by decide +kernel]; intro e; rw [ll_eq hb ⟨by omega, by omega⟩] at e; omega), ll_toInt ha, ll_toInt hb, ll_toInt ⟨by omega, by omega⟩, Int.tdiv_eq_ediv_of_nonneg h0]
theorem ll_cmp {a b : Int} (ha : lR a) (hb : lR b) : lg_cmp (ll a) (ll b) = ii (if b < a then 1 else if a = b then 0 else -1) := by
  unfold lg_cmp
  by_cases h1 : b < a
  · rw [if_pos h1]
    simp [ll_lt hb ha, h1, ii_1]
  · rw [if_neg h1]
    by_cases h2 : a = b
    · subst h2
      simp [ll_lt hb ha, ii_0]
    · rw [if_neg h2]
      simp [ll_lt hb ha, ll_eq ha hb, h1, h2, ii_m1]
