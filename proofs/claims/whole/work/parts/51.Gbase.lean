
theorem us_ne (A : AW) (i ka k Q : Nat) (h : k ≠ ka) : (AW.w_us A (nU A.us i (nU (A.us i) ka Q))).us i k = A.us i k := by
  show nU A.us i (nU (A.us i) ka Q) i k = A.us i k
  unfold nU; rw [if_pos rfl, if_neg h]
/-- the places of series and of their points stay -/
def aS (A B : AW) : Prop := ∀ i k : Nat, k < 6 → B.us i k = A.us i k
theorem aS_tr {A B C : AW} (h1 : aS A B) (h2 : aS B C) : aS A C := fun i k hk => (h2 i k hk).trans (h1 i k hk)
theorem aS_us {A B : AW} (h : aS A B) (i ka Q : Nat) (hk : 6 ≤ ka) : aS A (AW.w_us B (nU B.us i (nU (B.us i) ka Q))) := fun j k hj => by
  show nU B.us i (nU (B.us i) ka Q) j k = A.us j k
  unfold nU
  by_cases z : j = i
  · subst z; rw [if_pos rfl, if_neg (by omega)]; exact h j k hj
  · rw [if_neg z]; exact h j k hj
/-- a reader one bracket deeper, as its callers use it -/
def jO (l : Launch) (y : MethodName) (b : ByteArray) (mL fr lo : Nat) (o : CW → WS → Int → Option (Int × CW × WS)) : Prop :=
  ∀ (D : jd_T) (g : Nat → Nat) (A0 : AW) (C0 : CW) (S : WS) (v1 r : Int) (c9 : CW) (S9 : WS), o C0 S v1 = some (r, c9, S9) → jgI_C l D y b mL (some .int) { frames := fr, cells := C0.bc, slots := C0.bs, locals := lo } [.ref (g 10), .int (ii v1)] (wtL D g A0 C0 S) (fun A : AW => (.returned (some (.int (ii r))), (c9.bc ≤ C0.bc ∧ c9.bs ≤ C0.bs) ∧ aS A0 A, wtL D g A c9 S9, C0.bc - c9.bc, C0.bs - c9.bs))
theorem wt_us (D : jd_T) (g : Nat → Nat) (A : AW) (c : CW) (S : WS) (i ka Q : Nat) (h : ka ≠ 0) : (wtL D g A c S).set 5 (sg_big (fun j => sg_l (serW D (AW.w_us A (nU A.us i (nU (A.us i) ka Q))) c S j)) c.N) = wtL D g (AW.w_us A (nU A.us i (nU (A.us i) ka Q))) c S := by
  have e : ∀ k : Nat, (AW.w_us A (nU A.us i (nU (A.us i) ka Q))).us k 0 = A.us k 0 := by
    intro k
    show (nU A.us i (nU (A.us i) ka Q)) k 0 = A.us k 0
    by_cases z : k = i
    · subst z; simp only [nU, if_true]; exact if_neg (Ne.symm h)
    · simp only [nU, if_neg z]
  unfold wtL
  simp only [e]
  rfl
