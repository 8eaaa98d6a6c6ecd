/-! ===== mirrors: functions in Option that go as the code goes ===== -/
theorem oq_if {α : Type} {p : Prop} [Decidable p] {x : Option α} {r : α} (h : (if p then x else none) = some r) : p ∧ x = some r := by
  by_cases c : p
  · rw [if_pos c] at h; exact ⟨c, h⟩
  · rw [if_neg c] at h; cases h
theorem oq_pos {α : Type} {p : Prop} [Decidable p] {x y : Option α} {r : α} (c : p) (h : (if p then x else y) = some r) : x = some r := by rwa [if_pos c] at h
theorem oq_neg {α : Type} {p : Prop} [Decidable p] {x y : Option α} {r : α} (c : ¬ p) (h : (if p then x else y) = some r) : y = some r := by rwa [if_neg c] at h
def mb2 {α β γ : Type} (x : Option (α × β)) (f : α → β → Option γ) : Option γ := match x with
  | none => none
  | some q => f q.1 q.2
def mb1 {α γ : Type} (x : Option α) (f : α → Option γ) : Option γ := match x with
  | none => none
  | some q => f q
theorem mb2_some {α β γ : Type} {x : Option (α × β)} {f : α → β → Option γ} {r : γ} (h : mb2 x f = some r) : ∃ a b, x = some (a, b) ∧ f a b = some r := by
  cases x with
  | none => cases h
  | some q => exact ⟨q.1, q.2, rfl, h⟩
theorem mb1_some {α γ : Type} {x : Option α} {f : α → Option γ} {r : γ} (h : mb1 x f = some r) : ∃ a, x = some a ∧ f a = some r := by
  cases x with
  | none => cases h
  | some q => exact ⟨q, rfl, h⟩
/-- an array with one element set -/
def aU {α : Type} (f : Int → α) (i : Int) (x : α) : Int → α := fun j => if j = i then x else f j
def gAnd (a b : Int) : Int := (ii a &&& ii b).toInt
def gOr (a b : Int) : Int := (ii a ||| ii b).toInt
def gShl (a b : Int) : Int := (ii a <<< (ii b &&& 31)).toInt
def gShr (a b : Int) : Int := (ii a >>> (ii b &&& 31)).toInt
def gDiv (a b : Int) : Int := (ii a / ii b).toInt
def gRem (a b : Int) : Int := (ii a - ii a / ii b * ii b).toInt
theorem fit_z {z : Int} (h : z = 0 ∨ z = 1) : fits .boolean (.int (ii z)) = true := by
  rcases h with rfl | rfl <;> decide +kernel
/-- fuel enough for every loop -/
def fU : Nat := 1000000
section JW
variable {X : jx_T} {D : jd_T} {cc : ByteArray} {own : String} {ret : Option FieldType} {cs sl : Nat} {L : List sg_A} {lv : List (Nat × Value)} {pc : Nat} {st : List Value}
theorem jr_wif_eq {a a' : Int} {off : Int} (tgt : Nat) (ok : jx_ok X D cc own ret) (ha : w32 a = a') (d : decode cc pc = .ok (.ifCond .eq off, 3)) (ht : (pc : Int) + off = (tgt : Int))
    (kt : a' = 0 → jw X cs sl L lv tgt st) (kf : ¬ a' = 0 → jw X cs sl L lv (pc + 3) st) : jw X cs sl L lv pc (.int (ii a) :: st) := by
  subst ha; rw [ii_w32 a]; exact jr_if_eq tgt ok (w32_R a) d ht kt kf
theorem jr_wicmp_eq {a b a' b' : Int} {off : Int} (tgt : Nat) (ok : jx_ok X D cc own ret) (ha : w32 a = a') (hb : w32 b = b') (d : decode cc pc = .ok (.if_icmp .eq off, 3)) (ht : (pc : Int) + off = (tgt : Int))
    (kt : a' = b' → jw X cs sl L lv tgt st) (kf : ¬ a' = b' → jw X cs sl L lv (pc + 3) st) : jw X cs sl L lv pc (.int (ii b) :: .int (ii a) :: st) := by
  subst ha; subst hb; rw [ii_w32 a, ii_w32 b]; exact jr_icmp_eq tgt ok (w32_R a) (w32_R b) d ht kt kf
theorem jr_lif_eq {x y : Int64} {a' b' : Int} {off : Int} (tgt : Nat) (ok : jx_ok X D cc own ret) (ha : x.toInt = a') (hb : y.toInt = b') (d1 : decode cc pc = .ok (.lcmp, 1)) (d : decode cc (pc + 1) = .ok (.ifCond .eq off, 3)) (ht : ((pc + 1 : Nat) : Int) + off = (tgt : Int))
    (kt : a' = b' → jw X cs sl L lv tgt st) (kf : ¬ a' = b' → jw X cs sl L lv (pc + 1 + 3) st) : jw X cs sl L lv pc (.long y :: .long x :: st) := by
  subst ha; subst hb
  refine jr_lcmp_xx ok d1 ?_
  refine jr_if_eq tgt ok (lc_R _ _) d ht (fun c => kt ?_) (fun c => kf ?_)
  · split at c <;> first | omega | (split at c <;> omega)
  · split at c <;> first | omega | (split at c <;> omega)
theorem jr_wif_ne {a a' : Int} {off : Int} (tgt : Nat) (ok : jx_ok X D cc own ret) (ha : w32 a = a') (d : decode cc pc = .ok (.ifCond .ne off, 3)) (ht : (pc : Int) + off = (tgt : Int))
    (kt : ¬ a' = 0 → jw X cs sl L lv tgt st) (kf : a' = 0 → jw X cs sl L lv (pc + 3) st) : jw X cs sl L lv pc (.int (ii a) :: st) := by
  subst ha; rw [ii_w32 a]; exact jr_if_ne tgt ok (w32_R a) d ht kt kf
theorem jr_wicmp_ne {a b a' b' : Int} {off : Int} (tgt : Nat) (ok : jx_ok X D cc own ret) (ha : w32 a = a') (hb : w32 b = b') (d : decode cc pc = .ok (.if_icmp .ne off, 3)) (ht : (pc : Int) + off = (tgt : Int))
    (kt : ¬ a' = b' → jw X cs sl L lv tgt st) (kf : a' = b' → jw X cs sl L lv (pc + 3) st) : jw X cs sl L lv pc (.int (ii b) :: .int (ii a) :: st) := by
  subst ha; subst hb; rw [ii_w32 a, ii_w32 b]; exact jr_icmp_ne tgt ok (w32_R a) (w32_R b) d ht kt kf
theorem jr_lif_ne {x y : Int64} {a' b' : Int} {off : Int} (tgt : Nat) (ok : jx_ok X D cc own ret) (ha : x.toInt = a') (hb : y.toInt = b') (d1 : decode cc pc = .ok (.lcmp, 1)) (d : decode cc (pc + 1) = .ok (.ifCond .ne off, 3)) (ht : ((pc + 1 : Nat) : Int) + off = (tgt : Int))
    (kt : ¬ a' = b' → jw X cs sl L lv tgt st) (kf : a' = b' → jw X cs sl L lv (pc + 1 + 3) st) : jw X cs sl L lv pc (.long y :: .long x :: st) := by
  subst ha; subst hb
  refine jr_lcmp_xx ok d1 ?_
  refine jr_if_ne tgt ok (lc_R _ _) d ht (fun c => kt ?_) (fun c => kf ?_)
  · split at c <;> first | omega | (split at c <;> omega)
  · split at c <;> first | omega | (split at c <;> omega)
theorem jr_wif_lt {a a' : Int} {off : Int} (tgt : Nat) (ok : jx_ok X D cc own ret) (ha : w32 a = a') (d : decode cc pc = .ok (.ifCond .lt off, 3)) (ht : (pc : Int) + off = (tgt : Int))
    (kt : a' < 0 → jw X cs sl L lv tgt st) (kf : ¬ a' < 0 → jw X cs sl L lv (pc + 3) st) : jw X cs sl L lv pc (.int (ii a) :: st) := by
  subst ha; rw [ii_w32 a]; exact jr_if_lt tgt ok (w32_R a) d ht kt kf
theorem jr_wicmp_lt {a b a' b' : Int} {off : Int} (tgt : Nat) (ok : jx_ok X D cc own ret) (ha : w32 a = a') (hb : w32 b = b') (d : decode cc pc = .ok (.if_icmp .lt off, 3)) (ht : (pc : Int) + off = (tgt : Int))
    (kt : a' < b' → jw X cs sl L lv tgt st) (kf : ¬ a' < b' → jw X cs sl L lv (pc + 3) st) : jw X cs sl L lv pc (.int (ii b) :: .int (ii a) :: st) := by
  subst ha; subst hb; rw [ii_w32 a, ii_w32 b]; exact jr_icmp_lt tgt ok (w32_R a) (w32_R b) d ht kt kf
theorem jr_lif_lt {x y : Int64} {a' b' : Int} {off : Int} (tgt : Nat) (ok : jx_ok X D cc own ret) (ha : x.toInt = a') (hb : y.toInt = b') (d1 : decode cc pc = .ok (.lcmp, 1)) (d : decode cc (pc + 1) = .ok (.ifCond .lt off, 3)) (ht : ((pc + 1 : Nat) : Int) + off = (tgt : Int))
    (kt : a' < b' → jw X cs sl L lv tgt st) (kf : ¬ a' < b' → jw X cs sl L lv (pc + 1 + 3) st) : jw X cs sl L lv pc (.long y :: .long x :: st) := by
  subst ha; subst hb
  refine jr_lcmp_xx ok d1 ?_
  refine jr_if_lt tgt ok (lc_R _ _) d ht (fun c => kt ?_) (fun c => kf ?_)
  · split at c <;> first | omega | (split at c <;> omega)
  · split at c <;> first | omega | (split at c <;> omega)
theorem jr_wif_ge {a a' : Int} {off : Int} (tgt : Nat) (ok : jx_ok X D cc own ret) (ha : w32 a = a') (d : decode cc pc = .ok (.ifCond .ge off, 3)) (ht : (pc : Int) + off = (tgt : Int))
    (kt : 0 ≤ a' → jw X cs sl L lv tgt st) (kf : ¬ 0 ≤ a' → jw X cs sl L lv (pc + 3) st) : jw X cs sl L lv pc (.int (ii a) :: st) := by
  subst ha; rw [ii_w32 a]; exact jr_if_ge tgt ok (w32_R a) d ht kt kf
theorem jr_wicmp_ge {a b a' b' : Int} {off : Int} (tgt : Nat) (ok : jx_ok X D cc own ret) (ha : w32 a = a') (hb : w32 b = b') (d : decode cc pc = .ok (.if_icmp .ge off, 3)) (ht : (pc : Int) + off = (tgt : Int))
    (kt : b' ≤ a' → jw X cs sl L lv tgt st) (kf : ¬ b' ≤ a' → jw X cs sl L lv (pc + 3) st) : jw X cs sl L lv pc (.int (ii b) :: .int (ii a) :: st) := by
  subst ha; subst hb; rw [ii_w32 a, ii_w32 b]; exact jr_icmp_ge tgt ok (w32_R a) (w32_R b) d ht kt kf
theorem jr_lif_ge {x y : Int64} {a' b' : Int} {off : Int} (tgt : Nat) (ok : jx_ok X D cc own ret) (ha : x.toInt = a') (hb : y.toInt = b') (d1 : decode cc pc = .ok (.lcmp, 1)) (d : decode cc (pc + 1) = .ok (.ifCond .ge off, 3)) (ht : ((pc + 1 : Nat) : Int) + off = (tgt : Int))
    (kt : b' ≤ a' → jw X cs sl L lv tgt st) (kf : ¬ b' ≤ a' → jw X cs sl L lv (pc + 1 + 3) st) : jw X cs sl L lv pc (.long y :: .long x :: st) := by
  subst ha; subst hb
  refine jr_lcmp_xx ok d1 ?_
  refine jr_if_ge tgt ok (lc_R _ _) d ht (fun c => kt ?_) (fun c => kf ?_)
  · split at c <;> first | omega | (split at c <;> omega)
  · split at c <;> first | omega | (split at c <;> omega)
theorem jr_wif_gt {a a' : Int} {off : Int} (tgt : Nat) (ok : jx_ok X D cc own ret) (ha : w32 a = a') (d : decode cc pc = .ok (.ifCond .gt off, 3)) (ht : (pc : Int) + off = (tgt : Int))
    (kt : 0 < a' → jw X cs sl L lv tgt st) (kf : ¬ 0 < a' → jw X cs sl L lv (pc + 3) st) : jw X cs sl L lv pc (.int (ii a) :: st) := by
  subst ha; rw [ii_w32 a]; exact jr_if_gt tgt ok (w32_R a) d ht kt kf
theorem jr_wicmp_gt {a b a' b' : Int} {off : Int} (tgt : Nat) (ok : jx_ok X D cc own ret) (ha : w32 a = a') (hb : w32 b = b') (d : decode cc pc = .ok (.if_icmp .gt off, 3)) (ht : (pc : Int) + off = (tgt : Int))
    (kt : b' < a' → jw X cs sl L lv tgt st) (kf : ¬ b' < a' → jw X cs sl L lv (pc + 3) st) : jw X cs sl L lv pc (.int (ii b) :: .int (ii a) :: st) := by
  subst ha; subst hb; rw [ii_w32 a, ii_w32 b]; exact jr_icmp_gt tgt ok (w32_R a) (w32_R b) d ht kt kf
theorem jr_lif_gt {x y : Int64} {a' b' : Int} {off : Int} (tgt : Nat) (ok : jx_ok X D cc own ret) (ha : x.toInt = a') (hb : y.toInt = b') (d1 : decode cc pc = .ok (.lcmp, 1)) (d : decode cc (pc + 1) = .ok (.ifCond .gt off, 3)) (ht : ((pc + 1 : Nat) : Int) + off = (tgt : Int))
    (kt : b' < a' → jw X cs sl L lv tgt st) (kf : ¬ b' < a' → jw X cs sl L lv (pc + 1 + 3) st) : jw X cs sl L lv pc (.long y :: .long x :: st) := by
  subst ha; subst hb
  refine jr_lcmp_xx ok d1 ?_
  refine jr_if_gt tgt ok (lc_R _ _) d ht (fun c => kt ?_) (fun c => kf ?_)
  · split at c <;> first | omega | (split at c <;> omega)
  · split at c <;> first | omega | (split at c <;> omega)
theorem jr_wif_le {a a' : Int} {off : Int} (tgt : Nat) (ok : jx_ok X D cc own ret) (ha : w32 a = a') (d : decode cc pc = .ok (.ifCond .le off, 3)) (ht : (pc : Int) + off = (tgt : Int))
    (kt : a' ≤ 0 → jw X cs sl L lv tgt st) (kf : ¬ a' ≤ 0 → jw X cs sl L lv (pc + 3) st) : jw X cs sl L lv pc (.int (ii a) :: st) := by
  subst ha; rw [ii_w32 a]; exact jr_if_le tgt ok (w32_R a) d ht kt kf
theorem jr_wicmp_le {a b a' b' : Int} {off : Int} (tgt : Nat) (ok : jx_ok X D cc own ret) (ha : w32 a = a') (hb : w32 b = b') (d : decode cc pc = .ok (.if_icmp .le off, 3)) (ht : (pc : Int) + off = (tgt : Int))
    (kt : a' ≤ b' → jw X cs sl L lv tgt st) (kf : ¬ a' ≤ b' → jw X cs sl L lv (pc + 3) st) : jw X cs sl L lv pc (.int (ii b) :: .int (ii a) :: st) := by
  subst ha; subst hb; rw [ii_w32 a, ii_w32 b]; exact jr_icmp_le tgt ok (w32_R a) (w32_R b) d ht kt kf
theorem jr_lif_le {x y : Int64} {a' b' : Int} {off : Int} (tgt : Nat) (ok : jx_ok X D cc own ret) (ha : x.toInt = a') (hb : y.toInt = b') (d1 : decode cc pc = .ok (.lcmp, 1)) (d : decode cc (pc + 1) = .ok (.ifCond .le off, 3)) (ht : ((pc + 1 : Nat) : Int) + off = (tgt : Int))
    (kt : a' ≤ b' → jw X cs sl L lv tgt st) (kf : ¬ a' ≤ b' → jw X cs sl L lv (pc + 1 + 3) st) : jw X cs sl L lv pc (.long y :: .long x :: st) := by
  subst ha; subst hb
  refine jr_lcmp_xx ok d1 ?_
  refine jr_if_le tgt ok (lc_R _ _) d ht (fun c => kt ?_) (fun c => kf ?_)
  · split at c <;> first | omega | (split at c <;> omega)
  · split at c <;> first | omega | (split at c <;> omega)
theorem jr_landx {x y : Int64} (ok : jx_ok X D cc own ret) (d : decode cc pc = .ok (.land, 1)) (k : jw X cs sl L lv (pc + 1) (.long (x &&& y) :: st)) : jw X cs sl L lv pc (.long y :: .long x :: st) :=
  jr_land (z := (x &&& y).toInt) ok d (ll_of _).symm (by rw [ll_of]; exact k)
theorem jr_lorx {x y : Int64} (ok : jx_ok X D cc own ret) (d : decode cc pc = .ok (.lor, 1)) (k : jw X cs sl L lv (pc + 1) (.long (x ||| y) :: st)) : jw X cs sl L lv pc (.long y :: .long x :: st) :=
  jr_lor (z := (x ||| y).toInt) ok d (ll_of _).symm (by rw [ll_of]; exact k)
theorem jr_lshlx {x : Int64} {y : Int32} (ok : jx_ok X D cc own ret) (d : decode cc pc = .ok (.lshl, 1)) (k : jw X cs sl L lv (pc + 1) (.long (x <<< (y.toInt64 &&& 63)) :: st)) : jw X cs sl L lv pc (.int y :: .long x :: st) :=
  jr_lshl (z := (x <<< (y.toInt64 &&& 63)).toInt) ok d (ll_of _).symm (by rw [ll_of]; exact k)
theorem jr_lshrx {x : Int64} {y : Int32} (ok : jx_ok X D cc own ret) (d : decode cc pc = .ok (.lshr, 1)) (k : jw X cs sl L lv (pc + 1) (.long (x >>> (y.toInt64 &&& 63)) :: st)) : jw X cs sl L lv pc (.int y :: .long x :: st) :=
  jr_lshr (z := (x >>> (y.toInt64 &&& 63)).toInt) ok d (ll_of _).symm (by rw [ll_of]; exact k)
theorem jr_wi2l {a a' : Int} (ok : jx_ok X D cc own ret) (ha : w32 a = a') (d : decode cc pc = .ok (.i2l, 1)) (k : jw X cs sl L lv (pc + 1) (.long (ll a') :: st)) : jw X cs sl L lv pc (.int (ii a) :: st) := by
  subst ha; rw [ii_w32 a]; exact jr_i2l ok (w32_R a) d k
theorem jr_l2ix {x : Int64} (ok : jx_ok X D cc own ret) (d : decode cc pc = .ok (.l2i, 1)) (k : jw X cs sl L lv (pc + 1) (.int (ii x.toInt) :: st)) : jw X cs sl L lv pc (.long x :: st) := by
  have := jr_l2i (a := x.toInt) ok d k
  rw [ll_of] at this
  exact this
variable {RM rm : Room} {y : MethodName} {bytes : ByteArray} {maxL index n : Nat} {rt : Option FieldType} {As rest : List Value} {L' : List sg_A} {v : Value}
theorem jr_mV1 {ci b : Nat} {C : String} {T : u_T} {N fr lo : Nat} {fs : List Value} (ok : jx_ok X D cc own ret) (hR : jx_R X = RM) (hg : jm_V own index C y bytes maxL rt n) (hM : jc_C (jx_l X) D y bytes maxL rt { frames := fr, cells := 0, slots := 0, locals := lo } (.ref b :: As) L (fun _ : Unit => (.returned (some v), True, L')))
    (hq : L[0]? = some (ob D b ci fs)) (hcl : vwCl[ci]? = some (C, T, N)) (hst : st = As.reverse ++ .ref b :: rest) (hn : As.length = n) (hw : (rest.map fun v => v.category).sum ≤ 8) (hF : fr + 1 ≤ RM.frames ∧ 8 + (maxL + 11) + lo ≤ RM.locals) (hf : cs ≤ RM.cells ∧ sl ≤ RM.slots) (d : decode cc pc = .ok (.invokevirtual index, 3))
    (kk : jw X cs sl L' lv (pc + 3) (v :: rest)) : jw X cs sl L lv pc st :=
  jr_cV1 (List.range L.length) [] L' cs sl ok hR hg 0 hM (by rw [List.append_nil]) (sg_sel_all L) (Lr := []) rfl (List.append_nil _) hq hcl hst hn hw hF rfl rfl hf d (fun _ => kk)
theorem jr_mV0 {ci b : Nat} {C : String} {T : u_T} {N fr lo : Nat} {fs : List Value} (ok : jx_ok X D cc own ret) (hR : jx_R X = RM) (hg : jm_V own index C y bytes maxL rt n) (hM : jc_C (jx_l X) D y bytes maxL rt { frames := fr, cells := 0, slots := 0, locals := lo } (.ref b :: As) L (fun _ : Unit => (.returned none, True, L')))
    (hq : L[0]? = some (ob D b ci fs)) (hcl : vwCl[ci]? = some (C, T, N)) (hst : st = As.reverse ++ .ref b :: rest) (hn : As.length = n) (hw : (rest.map fun v => v.category).sum ≤ 8) (hF : fr + 1 ≤ RM.frames ∧ 8 + (maxL + 11) + lo ≤ RM.locals) (hf : cs ≤ RM.cells ∧ sl ≤ RM.slots) (d : decode cc pc = .ok (.invokevirtual index, 3))
    (kk : jw X cs sl L' lv (pc + 3) rest) : jw X cs sl L lv pc st :=
  jr_cV0 (List.range L.length) [] L' cs sl ok hR hg 0 hM (by rw [List.append_nil]) (sg_sel_all L) (Lr := []) rfl (List.append_nil _) hq hcl hst hn hw hF rfl rfl hf d (fun _ => kk)
theorem jr_mS1 {fr lo : Nat} (ok : jx_ok X D cc own ret) (hR : jx_R X = RM) (hg : jm_S own index y bytes maxL rt n) (hM : jc_C (jx_l X) D y bytes maxL rt { frames := fr, cells := 0, slots := 0, locals := lo } As [] (fun _ : Unit => (.returned (some v), True, [])))
    (hst : st = As.reverse ++ rest) (hn : As.length = n) (hw : (rest.map fun v => v.category).sum ≤ 8) (hF : fr + 1 ≤ RM.frames ∧ 8 + (maxL + 11) + lo ≤ RM.locals) (hf : cs ≤ RM.cells ∧ sl ≤ RM.slots) (d : decode cc pc = .ok (.invokestatic index, 3))
    (kk : jw X cs sl L lv (pc + 3) (v :: rest)) : jw X cs sl L lv pc st :=
  jr_cS1 [] (List.range L.length) L cs sl ok hR hg hM (List.Perm.refl _) rfl (sg_sel_all L) (List.nil_append _) hst hn hw hF rfl rfl hf d (fun _ => kk)
variable {σ : Type} {Lf : σ → List sg_A} {Sc S9 : σ} {mc ms : Nat}
theorem jm_iret {z r : Int} (ok : jx_ok X D cc own (some .int)) (fin : jx_fin X mc ms (fun _ : Unit => (.returned (some (.int (ii r))), True, Lf S9))) (hs : some (z, Sc) = some (r, S9)) (d : decode cc pc = .ok (.ireturn, 1)) : jw X 0 0 (Lf Sc) lv pc [.int (ii z)] := by
  cases hs; exact jr_iret ok fin (Nat.zero_le _) (Nat.zero_le _) () rfl trivial sg_same d
theorem jm_zret {z r : Int} (ok : jx_ok X D cc own (some .boolean)) (hz : narrow .boolean (.int (ii z)) = .int (ii z)) (fin : jx_fin X mc ms (fun _ : Unit => (.returned (some (.int (ii r))), True, Lf S9))) (hs : some (z, Sc) = some (r, S9)) (d : decode cc pc = .ok (.ireturn, 1)) : jw X 0 0 (Lf Sc) lv pc [.int (ii z)] := by
  cases hs; exact jr_zret ok hz fin (Nat.zero_le _) (Nat.zero_le _) () rfl trivial sg_same d
theorem jm_lret {z r : Int64} (ok : jx_ok X D cc own (some .long)) (fin : jx_fin X mc ms (fun _ : Unit => (.returned (some (.long r)), True, Lf S9))) (hs : some (z, Sc) = some (r, S9)) (d : decode cc pc = .ok (.lreturn, 1)) : jw X 0 0 (Lf Sc) lv pc [.long z] := by
  cases hs; exact jr_lret ok fin (Nat.zero_le _) (Nat.zero_le _) () rfl trivial sg_same d
theorem jm_vret {r : Unit} (ok : jx_ok X D cc own none) (fin : jx_fin X mc ms (fun _ : Unit => (.returned none, True, Lf S9))) (hs : some ((), Sc) = some (r, S9)) (d : decode cc pc = .ok (.return_, 1)) : jw X 0 0 (Lf Sc) lv pc [] := by
  cases hs; exact jr_vret ok fin (Nat.zero_le _) (Nat.zero_le _) () rfl trivial sg_same d
theorem jm_irets {z r : Int} (ok : jx_ok X D cc own (some .int)) (fin : jx_fin X mc ms (fun _ : Unit => (.returned (some (.int (ii r))), True, ([] : List sg_A)))) (hs : some z = some r) (d : decode cc pc = .ok (.ireturn, 1)) : jw X 0 0 [] lv pc [.int (ii z)] := by
  cases hs; exact jr_iret ok fin (Nat.zero_le _) (Nat.zero_le _) () rfl trivial sg_same d
theorem jm_zrets {z r : Int} (ok : jx_ok X D cc own (some .boolean)) (hz : narrow .boolean (.int (ii z)) = .int (ii z)) (fin : jx_fin X mc ms (fun _ : Unit => (.returned (some (.int (ii r))), True, ([] : List sg_A)))) (hs : some z = some r) (d : decode cc pc = .ok (.ireturn, 1)) : jw X 0 0 [] lv pc [.int (ii z)] := by
  cases hs; exact jr_zret ok hz fin (Nat.zero_le _) (Nat.zero_le _) () rfl trivial sg_same d
theorem jm_lrets {z r : Int64} (ok : jx_ok X D cc own (some .long)) (fin : jx_fin X mc ms (fun _ : Unit => (.returned (some (.long r)), True, ([] : List sg_A)))) (hs : some z = some r) (d : decode cc pc = .ok (.lreturn, 1)) : jw X 0 0 [] lv pc [.long z] := by
  cases hs; exact jr_lret ok fin (Nat.zero_le _) (Nat.zero_le _) () rfl trivial sg_same d
end JW

/-! the state of the reference -/
abbrev MS : Type := (((((((Int) × (Int → Int)) × ((Int) × (Int))) × (((Int) × (Int → Int)) × (Int → Int))) × ((((Int) × (Int → Int64)) × ((Int → Int) × (Int → Int64))) × (((Int → Int64) × (Int → Int)) × (Int)))) × (((((Int) × (Int64)) × ((Int) × (Int))) × (((Int → Int) × (Int)) × (Int))) × ((((Int) × (Int)) × ((Int64) × (Int → Int))) × (((Int → Int) × (Int → Int)) × (Int → Int))))) × ((((((Int → Int) × (Int → Int64)) × ((Int → Int) × (Int → Int))) × (((Int) × (Int)) × (Int64))) × ((((Int64) × (Int)) × ((Int) × (Int → Int))) × (((Int → Int64) × (Int → Int)) × (Int → Int64)))) × (((((Int → Int) × (Int → Int)) × ((Int → Int) × (Int))) × (((Int) × (Int)) × (Int))) × ((((Int) × (Int)) × ((Int) × (Int → Int))) × (((Int → Int) × (Int → Int64)) × (Int → Int))))))
abbrev MS.m_code (s : MS) : Int := s.1.1.1.1.1.1
abbrev MS.m_tape (s : MS) : Int → Int := s.1.1.1.1.1.2
abbrev MS.m_length (s : MS) : Int := s.1.1.1.1.2.1
abbrev MS.m_faultCode (s : MS) : Int := s.1.1.1.1.2.2
abbrev MS.m_faultPlace (s : MS) : Int := s.1.1.1.2.1.1
abbrev MS.m_texts (s : MS) : Int → Int := s.1.1.1.2.1.2
abbrev MS.m_textLengths (s : MS) : Int → Int := s.1.1.1.2.2
abbrev MS.m_seriesCount (s : MS) : Int := s.1.1.2.1.1.1
abbrev MS.m_lasts (s : MS) : Int → Int64 := s.1.1.2.1.1.2
abbrev MS.m_pointSeries (s : MS) : Int → Int := s.1.1.2.1.2.1
abbrev MS.m_pointTimes (s : MS) : Int → Int64 := s.1.1.2.1.2.2
abbrev MS.m_pointValues (s : MS) : Int → Int64 := s.1.1.2.2.1.1
abbrev MS.m_places (s : MS) : Int → Int := s.1.1.2.2.1.2
abbrev MS.m_points (s : MS) : Int := s.1.1.2.2.2
abbrev MS.m_head (s : MS) : Int := s.1.2.1.1.1.1
abbrev MS.m_horizon (s : MS) : Int64 := s.1.2.1.1.1.2
abbrev MS.m_parcels (s : MS) : Int := s.1.2.1.1.2.1
abbrev MS.m_scars (s : MS) : Int := s.1.2.1.1.2.2
abbrev MS.m_labels (s : MS) : Int → Int := s.1.2.1.2.1.1
abbrev MS.m_labelCount (s : MS) : Int := s.1.2.1.2.1.2
abbrev MS.m_kind (s : MS) : Int := s.1.2.1.2.2
abbrev MS.m_from (s : MS) : Int := s.1.2.2.1.1.1
abbrev MS.m_to (s : MS) : Int := s.1.2.2.1.1.2
abbrev MS.m_amount (s : MS) : Int64 := s.1.2.2.1.2.1
abbrev MS.m_tableNames (s : MS) : Int → Int := s.1.2.2.1.2.2
abbrev MS.m_nameFroms (s : MS) : Int → Int := s.1.2.2.2.1.1
abbrev MS.m_nameLengths (s : MS) : Int → Int := s.1.2.2.2.1.2
abbrev MS.m_tableRows (s : MS) : Int → Int := s.1.2.2.2.2
abbrev MS.m_rowSeries (s : MS) : Int → Int := s.2.1.1.1.1.1
abbrev MS.m_cells (s : MS) : Int → Int64 := s.2.1.1.1.1.2
abbrev MS.m_isCell (s : MS) : Int → Int := s.2.1.1.1.2.1
abbrev MS.m_starts (s : MS) : Int → Int := s.2.1.1.1.2.2
abbrev MS.m_pile (s : MS) : Int := s.2.1.1.2.1.1
abbrev MS.m_works (s : MS) : Int := s.2.1.1.2.1.2
abbrev MS.m_windowsFrom (s : MS) : Int64 := s.2.1.1.2.2
abbrev MS.m_width (s : MS) : Int64 := s.2.1.2.1.1.1
abbrev MS.m_windows (s : MS) : Int := s.2.1.2.1.1.2
abbrev MS.m_valueLength (s : MS) : Int := s.2.1.2.1.2.1
abbrev MS.m_rowOf (s : MS) : Int → Int := s.2.1.2.1.2.2
abbrev MS.m_keyTimes (s : MS) : Int → Int64 := s.2.1.2.2.1.1
abbrev MS.m_keySeries (s : MS) : Int → Int := s.2.1.2.2.1.2
abbrev MS.m_befores (s : MS) : Int → Int64 := s.2.1.2.2.2
abbrev MS.m_hasBefore (s : MS) : Int → Int := s.2.2.1.1.1.1
abbrev MS.m_signs (s : MS) : Int → Int := s.2.2.1.1.1.2
abbrev MS.m_signPlaces (s : MS) : Int → Int := s.2.2.1.1.2.1
abbrev MS.m_signCount (s : MS) : Int := s.2.2.1.1.2.2
abbrev MS.m_open (s : MS) : Int := s.2.2.1.2.1.1
abbrev MS.m_wants (s : MS) : Int := s.2.2.1.2.1.2
abbrev MS.m_isTable (s : MS) : Int := s.2.2.1.2.2
abbrev MS.m_names (s : MS) : Int := s.2.2.2.1.1.1
abbrev MS.m_rows (s : MS) : Int := s.2.2.2.1.1.2
abbrev MS.m_shownWindows (s : MS) : Int := s.2.2.2.1.2.1
abbrev MS.m_rowTexts (s : MS) : Int → Int := s.2.2.2.1.2.2
abbrev MS.m_rowLengths (s : MS) : Int → Int := s.2.2.2.2.1.1
abbrev MS.m_shown (s : MS) : Int → Int64 := s.2.2.2.2.1.2
abbrev MS.m_isShown (s : MS) : Int → Int := s.2.2.2.2.2
abbrev MS.w_m_code (s : MS) (x : Int) : MS := ((((((x, s.1.1.1.1.1.2), s.1.1.1.1.2), s.1.1.1.2), s.1.1.2), s.1.2), s.2)
abbrev MS.w_m_tape (s : MS) (x : Int → Int) : MS := ((((((s.1.1.1.1.1.1, x), s.1.1.1.1.2), s.1.1.1.2), s.1.1.2), s.1.2), s.2)
abbrev MS.w_m_length (s : MS) (x : Int) : MS := (((((s.1.1.1.1.1, (x, s.1.1.1.1.2.2)), s.1.1.1.2), s.1.1.2), s.1.2), s.2)
abbrev MS.w_m_faultCode (s : MS) (x : Int) : MS := (((((s.1.1.1.1.1, (s.1.1.1.1.2.1, x)), s.1.1.1.2), s.1.1.2), s.1.2), s.2)
abbrev MS.w_m_faultPlace (s : MS) (x : Int) : MS := ((((s.1.1.1.1, ((x, s.1.1.1.2.1.2), s.1.1.1.2.2)), s.1.1.2), s.1.2), s.2)
abbrev MS.w_m_texts (s : MS) (x : Int → Int) : MS := ((((s.1.1.1.1, ((s.1.1.1.2.1.1, x), s.1.1.1.2.2)), s.1.1.2), s.1.2), s.2)
abbrev MS.w_m_textLengths (s : MS) (x : Int → Int) : MS := ((((s.1.1.1.1, (s.1.1.1.2.1, x)), s.1.1.2), s.1.2), s.2)
abbrev MS.w_m_seriesCount (s : MS) (x : Int) : MS := (((s.1.1.1, (((x, s.1.1.2.1.1.2), s.1.1.2.1.2), s.1.1.2.2)), s.1.2), s.2)
abbrev MS.w_m_lasts (s : MS) (x : Int → Int64) : MS := (((s.1.1.1, (((s.1.1.2.1.1.1, x), s.1.1.2.1.2), s.1.1.2.2)), s.1.2), s.2)
abbrev MS.w_m_pointSeries (s : MS) (x : Int → Int) : MS := (((s.1.1.1, ((s.1.1.2.1.1, (x, s.1.1.2.1.2.2)), s.1.1.2.2)), s.1.2), s.2)
abbrev MS.w_m_pointTimes (s : MS) (x : Int → Int64) : MS := (((s.1.1.1, ((s.1.1.2.1.1, (s.1.1.2.1.2.1, x)), s.1.1.2.2)), s.1.2), s.2)
abbrev MS.w_m_pointValues (s : MS) (x : Int → Int64) : MS := (((s.1.1.1, (s.1.1.2.1, ((x, s.1.1.2.2.1.2), s.1.1.2.2.2))), s.1.2), s.2)
abbrev MS.w_m_places (s : MS) (x : Int → Int) : MS := (((s.1.1.1, (s.1.1.2.1, ((s.1.1.2.2.1.1, x), s.1.1.2.2.2))), s.1.2), s.2)
abbrev MS.w_m_points (s : MS) (x : Int) : MS := (((s.1.1.1, (s.1.1.2.1, (s.1.1.2.2.1, x))), s.1.2), s.2)
abbrev MS.w_m_head (s : MS) (x : Int) : MS := ((s.1.1, ((((x, s.1.2.1.1.1.2), s.1.2.1.1.2), s.1.2.1.2), s.1.2.2)), s.2)
abbrev MS.w_m_horizon (s : MS) (x : Int64) : MS := ((s.1.1, ((((s.1.2.1.1.1.1, x), s.1.2.1.1.2), s.1.2.1.2), s.1.2.2)), s.2)
abbrev MS.w_m_parcels (s : MS) (x : Int) : MS := ((s.1.1, (((s.1.2.1.1.1, (x, s.1.2.1.1.2.2)), s.1.2.1.2), s.1.2.2)), s.2)
abbrev MS.w_m_scars (s : MS) (x : Int) : MS := ((s.1.1, (((s.1.2.1.1.1, (s.1.2.1.1.2.1, x)), s.1.2.1.2), s.1.2.2)), s.2)
abbrev MS.w_m_labels (s : MS) (x : Int → Int) : MS := ((s.1.1, ((s.1.2.1.1, ((x, s.1.2.1.2.1.2), s.1.2.1.2.2)), s.1.2.2)), s.2)
abbrev MS.w_m_labelCount (s : MS) (x : Int) : MS := ((s.1.1, ((s.1.2.1.1, ((s.1.2.1.2.1.1, x), s.1.2.1.2.2)), s.1.2.2)), s.2)
abbrev MS.w_m_kind (s : MS) (x : Int) : MS := ((s.1.1, ((s.1.2.1.1, (s.1.2.1.2.1, x)), s.1.2.2)), s.2)
abbrev MS.w_m_from (s : MS) (x : Int) : MS := ((s.1.1, (s.1.2.1, (((x, s.1.2.2.1.1.2), s.1.2.2.1.2), s.1.2.2.2))), s.2)
abbrev MS.w_m_to (s : MS) (x : Int) : MS := ((s.1.1, (s.1.2.1, (((s.1.2.2.1.1.1, x), s.1.2.2.1.2), s.1.2.2.2))), s.2)
abbrev MS.w_m_amount (s : MS) (x : Int64) : MS := ((s.1.1, (s.1.2.1, ((s.1.2.2.1.1, (x, s.1.2.2.1.2.2)), s.1.2.2.2))), s.2)
abbrev MS.w_m_tableNames (s : MS) (x : Int → Int) : MS := ((s.1.1, (s.1.2.1, ((s.1.2.2.1.1, (s.1.2.2.1.2.1, x)), s.1.2.2.2))), s.2)
abbrev MS.w_m_nameFroms (s : MS) (x : Int → Int) : MS := ((s.1.1, (s.1.2.1, (s.1.2.2.1, ((x, s.1.2.2.2.1.2), s.1.2.2.2.2)))), s.2)
abbrev MS.w_m_nameLengths (s : MS) (x : Int → Int) : MS := ((s.1.1, (s.1.2.1, (s.1.2.2.1, ((s.1.2.2.2.1.1, x), s.1.2.2.2.2)))), s.2)
abbrev MS.w_m_tableRows (s : MS) (x : Int → Int) : MS := ((s.1.1, (s.1.2.1, (s.1.2.2.1, (s.1.2.2.2.1, x)))), s.2)
abbrev MS.w_m_rowSeries (s : MS) (x : Int → Int) : MS := (s.1, (((((x, s.2.1.1.1.1.2), s.2.1.1.1.2), s.2.1.1.2), s.2.1.2), s.2.2))
abbrev MS.w_m_cells (s : MS) (x : Int → Int64) : MS := (s.1, (((((s.2.1.1.1.1.1, x), s.2.1.1.1.2), s.2.1.1.2), s.2.1.2), s.2.2))
abbrev MS.w_m_isCell (s : MS) (x : Int → Int) : MS := (s.1, ((((s.2.1.1.1.1, (x, s.2.1.1.1.2.2)), s.2.1.1.2), s.2.1.2), s.2.2))
abbrev MS.w_m_starts (s : MS) (x : Int → Int) : MS := (s.1, ((((s.2.1.1.1.1, (s.2.1.1.1.2.1, x)), s.2.1.1.2), s.2.1.2), s.2.2))
abbrev MS.w_m_pile (s : MS) (x : Int) : MS := (s.1, (((s.2.1.1.1, ((x, s.2.1.1.2.1.2), s.2.1.1.2.2)), s.2.1.2), s.2.2))
abbrev MS.w_m_works (s : MS) (x : Int) : MS := (s.1, (((s.2.1.1.1, ((s.2.1.1.2.1.1, x), s.2.1.1.2.2)), s.2.1.2), s.2.2))
abbrev MS.w_m_windowsFrom (s : MS) (x : Int64) : MS := (s.1, (((s.2.1.1.1, (s.2.1.1.2.1, x)), s.2.1.2), s.2.2))
abbrev MS.w_m_width (s : MS) (x : Int64) : MS := (s.1, ((s.2.1.1, (((x, s.2.1.2.1.1.2), s.2.1.2.1.2), s.2.1.2.2)), s.2.2))
abbrev MS.w_m_windows (s : MS) (x : Int) : MS := (s.1, ((s.2.1.1, (((s.2.1.2.1.1.1, x), s.2.1.2.1.2), s.2.1.2.2)), s.2.2))
abbrev MS.w_m_valueLength (s : MS) (x : Int) : MS := (s.1, ((s.2.1.1, ((s.2.1.2.1.1, (x, s.2.1.2.1.2.2)), s.2.1.2.2)), s.2.2))
abbrev MS.w_m_rowOf (s : MS) (x : Int → Int) : MS := (s.1, ((s.2.1.1, ((s.2.1.2.1.1, (s.2.1.2.1.2.1, x)), s.2.1.2.2)), s.2.2))
abbrev MS.w_m_keyTimes (s : MS) (x : Int → Int64) : MS := (s.1, ((s.2.1.1, (s.2.1.2.1, ((x, s.2.1.2.2.1.2), s.2.1.2.2.2))), s.2.2))
abbrev MS.w_m_keySeries (s : MS) (x : Int → Int) : MS := (s.1, ((s.2.1.1, (s.2.1.2.1, ((s.2.1.2.2.1.1, x), s.2.1.2.2.2))), s.2.2))
abbrev MS.w_m_befores (s : MS) (x : Int → Int64) : MS := (s.1, ((s.2.1.1, (s.2.1.2.1, (s.2.1.2.2.1, x))), s.2.2))
abbrev MS.w_m_hasBefore (s : MS) (x : Int → Int) : MS := (s.1, (s.2.1, ((((x, s.2.2.1.1.1.2), s.2.2.1.1.2), s.2.2.1.2), s.2.2.2)))
abbrev MS.w_m_signs (s : MS) (x : Int → Int) : MS := (s.1, (s.2.1, ((((s.2.2.1.1.1.1, x), s.2.2.1.1.2), s.2.2.1.2), s.2.2.2)))
abbrev MS.w_m_signPlaces (s : MS) (x : Int → Int) : MS := (s.1, (s.2.1, (((s.2.2.1.1.1, (x, s.2.2.1.1.2.2)), s.2.2.1.2), s.2.2.2)))
abbrev MS.w_m_signCount (s : MS) (x : Int) : MS := (s.1, (s.2.1, (((s.2.2.1.1.1, (s.2.2.1.1.2.1, x)), s.2.2.1.2), s.2.2.2)))
abbrev MS.w_m_open (s : MS) (x : Int) : MS := (s.1, (s.2.1, ((s.2.2.1.1, ((x, s.2.2.1.2.1.2), s.2.2.1.2.2)), s.2.2.2)))
abbrev MS.w_m_wants (s : MS) (x : Int) : MS := (s.1, (s.2.1, ((s.2.2.1.1, ((s.2.2.1.2.1.1, x), s.2.2.1.2.2)), s.2.2.2)))
abbrev MS.w_m_isTable (s : MS) (x : Int) : MS := (s.1, (s.2.1, ((s.2.2.1.1, (s.2.2.1.2.1, x)), s.2.2.2)))
abbrev MS.w_m_names (s : MS) (x : Int) : MS := (s.1, (s.2.1, (s.2.2.1, (((x, s.2.2.2.1.1.2), s.2.2.2.1.2), s.2.2.2.2))))
abbrev MS.w_m_rows (s : MS) (x : Int) : MS := (s.1, (s.2.1, (s.2.2.1, (((s.2.2.2.1.1.1, x), s.2.2.2.1.2), s.2.2.2.2))))
abbrev MS.w_m_shownWindows (s : MS) (x : Int) : MS := (s.1, (s.2.1, (s.2.2.1, ((s.2.2.2.1.1, (x, s.2.2.2.1.2.2)), s.2.2.2.2))))
abbrev MS.w_m_rowTexts (s : MS) (x : Int → Int) : MS := (s.1, (s.2.1, (s.2.2.1, ((s.2.2.2.1.1, (s.2.2.2.1.2.1, x)), s.2.2.2.2))))
abbrev MS.w_m_rowLengths (s : MS) (x : Int → Int) : MS := (s.1, (s.2.1, (s.2.2.1, (s.2.2.2.1, ((x, s.2.2.2.2.1.2), s.2.2.2.2.2)))))
abbrev MS.w_m_shown (s : MS) (x : Int → Int64) : MS := (s.1, (s.2.1, (s.2.2.1, (s.2.2.2.1, ((s.2.2.2.2.1.1, x), s.2.2.2.2.2)))))
abbrev MS.w_m_isShown (s : MS) (x : Int → Int) : MS := (s.1, (s.2.1, (s.2.2.1, (s.2.2.2.1, (s.2.2.2.2.1, x)))))

/-- its fields -/
def mov (g : Nat → Nat) (S : MS) : List Value := [.int (ii S.m_code), .ref (g 1), .int (ii S.m_length), .int (ii S.m_faultCode), .int (ii S.m_faultPlace), .ref (g 2), .ref (g 3), .int (ii S.m_seriesCount), .ref (g 4), .ref (g 5), .ref (g 6), .ref (g 7), .ref (g 8), .int (ii S.m_points), .int (ii S.m_head), .long S.m_horizon, .int (ii S.m_parcels), .int (ii S.m_scars), .ref (g 9), .int (ii S.m_labelCount), .int (ii S.m_kind), .int (ii S.m_from), .int (ii S.m_to), .long S.m_amount, .ref (g 10), .ref (g 11), .ref (g 12), .ref (g 13), .ref (g 14), .ref (g 15), .ref (g 16), .ref (g 17), .int (ii S.m_pile), .int (ii S.m_works), .long S.m_windowsFrom, .long S.m_width, .int (ii S.m_windows), .int (ii S.m_valueLength), .ref (g 18), .ref (g 19), .ref (g 20), .ref (g 21), .ref (g 22), .ref (g 23), .ref (g 24), .int (ii S.m_signCount), .int (ii S.m_open), .int (ii S.m_wants), .int (ii S.m_isTable), .int (ii S.m_names), .int (ii S.m_rows), .int (ii S.m_shownWindows), .ref (g 25), .ref (g 26), .ref (g 27), .ref (g 28)]
/-- its cells -/
def moL (D : jd_T) (g : Nat → Nat) (S : MS) : List sg_A := [ob D (g 0) 12 (mov g S), ai D 1 (g 1) 65536 S.m_tape, ai D 1 (g 2) 78128 S.m_texts, ai D 0 (g 3) 256 S.m_textLengths, al D 2 (g 4) 256 S.m_lasts, ai D 0 (g 5) 8192 S.m_pointSeries, al D 2 (g 6) 8192 S.m_pointTimes, al D 2 (g 7) 8192 S.m_pointValues, ai D 1 (g 8) 8192 S.m_places, ai D 0 (g 9) 28 S.m_labels, ai D 0 (g 10) 20 S.m_tableNames, ai D 0 (g 11) 120 S.m_nameFroms, ai D 0 (g 12) 120 S.m_nameLengths, ai D 0 (g 13) 20 S.m_tableRows, ai D 0 (g 14) 5120 S.m_rowSeries, al D 2 (g 15) 327680 S.m_cells, ai D 3 (g 16) 327680 S.m_isCell, ai D 0 (g 17) 21 S.m_starts, ai D 0 (g 18) 256 S.m_rowOf, al D 2 (g 19) 16384 S.m_keyTimes, ai D 0 (g 20) 16384 S.m_keySeries, al D 2 (g 21) 256 S.m_befores, ai D 3 (g 22) 256 S.m_hasBefore, ai D 0 (g 23) 32 S.m_signs, ai D 0 (g 24) 32 S.m_signPlaces, ai D 1 (g 25) 36864 S.m_rowTexts, ai D 0 (g 26) 1536 S.m_rowLengths, al D 2 (g 27) 16384 S.m_shown, ai D 3 (g 28) 16384 S.m_isShown]
