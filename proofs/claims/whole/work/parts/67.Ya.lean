/-! the first pass: nothing is reckoned -/
set_option maxRecDepth 100000 in
def zq_stp0 (h : Nat) (o : zq_Od) : zq_PR Nat := if o.1 = 302 ∨ o.1 = 310 then .ok (h + 1) else if o.1 = 311 then .ok h else .ok (h - 1)
set_option maxRecDepth 100000 in
theorem zq_sem0 (T : Int → Int) (n : Int) : zq_SEM T n 0 (fun M (_ : Nat) => M.m_pile = 0) zq_stp0 id := by
  refine ⟨fun M s k f t x sg sp sc op wa h => h, fun M s h => ⟨by omega, by show M.m_pile ≤ (s : Int); omega⟩, fun M s hB hJ hh => ?_, fun M s a b c k f t x q0 ns ms kd hB hJ hh h1 h2 h3 h4 => ?_, fun M s hB hJ hh => ?_, fun M s g zq_pl hB hJ hh hg => ?_⟩
  · refine ⟨s + 1, M, rfl, rfl, hJ, ⟨rfl, rfl, rfl, rfl⟩, fun K => ?_⟩
    rw [hB.2.2.2.2.2.1, if_pos (by decide)]
  · refine ⟨s + 1, zq_mxs (zq_mnw M a b c) k f t x, rfl, rfl, hJ, ⟨rfl, rfl, rfl, rfl⟩, fun K => ?_⟩
    rw [if_pos rfl]
  · exact ⟨s, M, rfl, rfl, hJ, ⟨rfl, rfl, rfl, rfl⟩, fun h => absurd h (by omega), fun _ => rfl⟩
  · have e : zq_stp0 s (g, ll 0, zq_pl, 0, [], []) = .ok (s - 1) := by
      unfold zq_stp0 zq_bsg at *
      rw [if_neg (by show ¬ (g = 302 ∨ g = 310); omega), if_neg (by show ¬ g = 311; omega)]
    rw [e]
    refine ⟨fun s' hs' => ?_, fun e he => (by cases he)⟩
    cases hs'
    have hh' : 2 ≤ s := hh
    exact ⟨by show s - 1 + 1 = s; omega, M, hJ, ⟨rfl, rfl, rfl, rfl⟩, fun h => absurd h (by omega), fun _ => rfl⟩
set_option maxRecDepth 100000 in
theorem zq_stp0_tot (s : Nat) (o : zq_Od) : ∃ s', zq_stp0 s o = .ok s' := by
  unfold zq_stp0; split
  · exact ⟨_, rfl⟩
  · split
    · exact ⟨_, rfl⟩
    · exact ⟨_, rfl⟩
set_option maxRecDepth 100000 in
theorem zq_r_pass0 {T : Int → Int} {n : Int} {M : MS} (h : zq_MB T n 0 (MS.w_m_works M 0)) : (∀ e, zq_pAll T n = .error e → zq_FL (MS.w_m_works M 0) e (s_Mo_question M 0)) ∧ (∀ os, zq_pAll T n = .ok os → ∃ M', s_Mo_question M 0 = some (1, M') ∧ zq_MB T n 0 M' ∧ zq_KF (MS.w_m_works M 0) M') := by
  obtain ⟨a, b⟩ := zq_r_question (zq_sem0 T n) (fun _ => zq_stp0_tot) (M := M) (s0 := 0) h rfl rfl
  refine ⟨fun e he => a e rfl he, fun os ho => ?_⟩
  have tot : ∀ (t : List zq_Od) (s : Nat), ∃ s', zq_rO zq_stp0 t s = .ok s' := by
    intro t
    induction t with
    | nil => intro s; exact ⟨s, rfl⟩
    | cons o r ih =>
      intro s
      obtain ⟨s1, h1⟩ := zq_stp0_tot s o
      obtain ⟨s2, h2⟩ := ih s1
      exact ⟨s2, by show zq_pbd (zq_stp0 s o) (zq_rO zq_stp0 r) = _; rw [h1]; exact h2⟩
  obtain ⟨s1, h1⟩ := tot os 0
  obtain ⟨M', m1, m2, m3, m4⟩ := (b os ho).2 s1 h1
  exact ⟨M', m1, m3, m4⟩
/-! tables, and what the orders mean -/
set_option maxRecDepth 100000 in
abbrev zq_Key : Type := List (List Int)
set_option maxRecDepth 100000 in
abbrev zq_Tf : Type := zq_Key → Nat → Option Int64
set_option maxRecDepth 100000 in
abbrev zq_Tbl : Type := List zq_NM × zq_Tf
set_option maxRecDepth 100000 in
abbrev zq_CT : Type := Int × Int64 × Int64 × Option Int64
set_option maxRecDepth 100000 in
def zq_vOf (l : zq_LB) (nm : List Int) : List Int := match l.find? (fun x => x.1 == nm) with | some x => x.2 | none => []
set_option maxRecDepth 100000 in
/-- the points, each with its series' value before -/
def zq_annF (prev : Int → Option Int64) : List zq_P4 → List zq_CT
  | [] => []
  | x :: r => (x.1, x.2.1, x.2.2.1, prev x.1) :: zq_annF (aU prev x.1 (some x.2.2.1)) r
set_option maxRecDepth 100000 in
abbrev zq_CS : Type := Option (Int64 × Int × Int)
set_option maxRecDepth 100000 in
/-- a point comes to a cell -/
def zq_cst (kd : Int) (s : zq_CS) (x : zq_CT) : zq_CS :=
  if kd = 1 then some (((match s with | some y => y.1 | none => ll 0) + x.2.2.1), 0, 0)
  else if kd = 2 then some (((match s with | some y => y.1 | none => ll 0) + ll 1), 0, 0)
  else if kd = 3 then some ((match s with | some y => (if y.1.toInt ≤ x.2.2.1.toInt then y.1 else x.2.2.1) | none => x.2.2.1), 0, 0)
  else if kd = 4 then some ((match s with | some y => (if x.2.2.1.toInt ≤ y.1.toInt then y.1 else x.2.2.1) | none => x.2.2.1), 0, 0)
  else if kd = 5 then (match s with | some y => (if x.2.1.toInt < y.2.1 ∨ (x.2.1.toInt = y.2.1 ∧ x.1 < y.2.2) then some (x.2.2.1, x.2.1.toInt, x.1) else some y) | none => some (x.2.2.1, x.2.1.toInt, x.1))
  else if kd = 6 then (match s with | some y => (if y.2.1 < x.2.1.toInt ∨ (x.2.1.toInt = y.2.1 ∧ x.1 < y.2.2) then some (x.2.2.1, x.2.1.toInt, x.1) else some y) | none => some (x.2.2.1, x.2.1.toInt, x.1))
  else match x.2.2.2 with | none => s | some b => some (((match s with | some y => y.1 | none => ll 0) + (if x.2.2.1.toInt < b.toInt then x.2.2.1 else x.2.2.1 - b)), 0, 0)
section
variable (T : Int → Int) (lb : Nat → zq_LB) (pts : List zq_P4) (fr wd : Int64) (W : Nat)
set_option maxRecDepth 100000 in
def zq_keyOf (ns : List zq_NM) (i : Int) : zq_Key := ns.map (fun x => zq_vOf (lb i.toNat) (zq_nmx T x))
set_option maxRecDepth 100000 in
def zq_mtch (l : zq_LB) (m : zq_MT) : Bool := let v := zq_vOf l (zq_nmx T m.1); let t := zq_sl T m.2.2.1 (m.2.2.1 + m.2.2.2)
  if m.2.1 = 61 then v == t else if m.2.1 = 305 then !(v == t) else if m.2.1 = 306 then t.isPrefixOf v else !(t.isPrefixOf v)
set_option maxRecDepth 100000 in
def zq_mAll (ms : List zq_MT) (i : Int) : Bool := ms.all (zq_mtch T (lb i.toNat))
set_option maxRecDepth 100000 in
def zq_winO (t : Int64) : Option Nat := if t.toInt < fr.toInt then none else if (t.toInt - fr.toInt) / wd.toInt < W then some ((t.toInt - fr.toInt) / wd.toInt).toNat else none
set_option maxRecDepth 100000 in
def zq_funT (kd : Int) (ns : List zq_NM) (ms : List zq_MT) : zq_Tf := fun k w => (((zq_annF (fun _ => none) pts).filter (fun x => zq_mAll T lb ms x.1 && (zq_keyOf T lb ns x.1 == k) && (zq_winO fr wd W x.2.1 == some w))).foldl (zq_cst kd) none).map (fun y => y.1)
set_option maxRecDepth 100000 in
def zq_opO (g : Int) (x y : Option Int64) : Option Int64 := match x, y with
  | some x, some y => if g = 43 then some (x + y) else if g = 45 then some (x - y) else if g = 42 then some (x * y) else if y = 0 then none else if g = 47 then some (x / y) else some (x - x / y * y)
  | _, _ => none
set_option maxRecDepth 100000 in
def zq_joinT (g : Int) (a b : zq_Tbl) : zq_Tbl := (if a.1 = [] then b.1 else a.1, fun k w => if a.1 = [] ∧ b.1 = [] ∧ k ≠ [] then none else zq_opO g (a.2 (if a.1 = [] then [] else k) w) (b.2 (if b.1 = [] then [] else k) w))
set_option maxRecDepth 100000 in
def zq_stp1 (s : List zq_Tbl) (o : zq_Od) : zq_PR (List zq_Tbl) :=
  if o.1 = 302 then .ok (([], fun k w => if k = [] ∧ w < W then some o.2.1 else none) :: s) else if o.1 = 310 then .ok ((o.2.2.2.2.1, zq_funT T lb pts fr wd W o.2.2.1 o.2.2.2.2.1 o.2.2.2.2.2) :: s) else if o.1 = 311 then
    (match s with | t :: r => .ok ((t.1, fun k w => (t.2 k w).map (fun x => -x)) :: r) | [] => .ok [])
  else match s with
    | b :: a :: r => if a.1 ≠ [] ∧ b.1 ≠ [] ∧ a.1.map (zq_nmx T) ≠ b.1.map (zq_nmx T) then .error (5, o.2.2.1) else .ok (zq_joinT o.1 a b :: r)
    | t => .ok t
set_option maxRecDepth 100000 in
/-- names and clashes as the program keeps them -/
theorem zq_nstep_cl {o : zq_Od} {s : List (List zq_NM) × Int} (h : s.2 ≠ -1) : (zq_nstep T s o).2 = s.2 := by
  unfold zq_nstep
  split
  · rfl
  · split
    · rfl
    · split
      · rfl
      · split
        · split
          · rfl
          · split
            · rfl
            · split
              · rename_i z; exact absurd z.1 h
              · rfl
        · rfl
set_option maxRecDepth 100000 in
theorem zq_nrun_cl : ∀ (os : List zq_Od) (s : List (List zq_NM) × Int), s.2 ≠ -1 → (zq_nrun T os s).2 = s.2
  | [], s, h => rfl
  | o :: r, s, h => by
    show (zq_nrun T r (zq_nstep T s o)).2 = s.2
    have e := zq_nstep_cl T (o := o) h
    rw [zq_nrun_cl r _ (by rw [e]; exact h), e]
set_option maxRecDepth 100000 in
theorem zq_rO_nrun : ∀ (os : List zq_Od) (s : List zq_Tbl), (∀ o ∈ os, o.1 ≠ 302 → o.1 ≠ 310 → o.1 ≠ 311 → 0 ≤ o.2.2.1) → (∀ st', zq_nrun T os (s.map Prod.fst, -1) = (st', -1) → ∃ s', zq_rO (zq_stp1 T lb pts fr wd W) os s = .ok s' ∧ s'.map Prod.fst = st') ∧ (∀ st' cl, cl ≠ -1 → zq_nrun T os (s.map Prod.fst, -1) = (st', cl) → zq_rO (zq_stp1 T lb pts fr wd W) os s = .error (5, cl))
  | [], s, _ => by
    refine ⟨fun st' h => ?_, fun st' cl hcl h => ?_⟩
    · injection h with h1 h2; exact ⟨s, rfl, h1⟩
    · injection h with h1 h2; exact absurd h2.symm hcl
  | o :: r, s, hpl => by
    have en : ∀ s0 : List (List zq_NM) × Int, zq_nrun T (o :: r) s0 = zq_nrun T r (zq_nstep T s0 o) := fun _ => rfl
    have er : ∀ s0 : List zq_Tbl, zq_rO (zq_stp1 T lb pts fr wd W) (o :: r) s0 = zq_pbd (zq_stp1 T lb pts fr wd W s0 o) (zq_rO (zq_stp1 T lb pts fr wd W) r) := fun _ => rfl
    rw [en, er]
    have hplr : ∀ o ∈ r, o.1 ≠ 302 → o.1 ≠ 310 → o.1 ≠ 311 → 0 ≤ o.2.2.1 := fun o ho => hpl o (List.mem_cons_of_mem _ ho)
    have go : ∀ s1 : List zq_Tbl, zq_stp1 T lb pts fr wd W s o = .ok s1 → zq_nstep T (s.map Prod.fst, -1) o = (s1.map Prod.fst, -1) → (∀ st', zq_nrun T r (zq_nstep T (s.map Prod.fst, -1) o) = (st', -1) → ∃ s', zq_pbd (zq_stp1 T lb pts fr wd W s o) (zq_rO (zq_stp1 T lb pts fr wd W) r) = .ok s' ∧ s'.map Prod.fst = st') ∧ (∀ st' cl, cl ≠ -1 → zq_nrun T r (zq_nstep T (s.map Prod.fst, -1) o) = (st', cl) → zq_pbd (zq_stp1 T lb pts fr wd W s o) (zq_rO (zq_stp1 T lb pts fr wd W) r) = .error (5, cl)) := by
      intro s1 h1 h2
      rw [h1, h2, zq_pbd_ok]
      exact zq_rO_nrun r s1 hplr
    unfold zq_stp1 at go ⊢
    by_cases c1 : o.1 = 302
    · exact go _ (by rw [if_pos c1]) (by unfold zq_nstep; rw [if_pos c1]; rfl)
    by_cases c2 : o.1 = 310
    · exact go _ (by rw [if_neg c1, if_pos c2]) (by unfold zq_nstep; rw [if_neg c1, if_pos c2]; rfl)
    by_cases c3 : o.1 = 311
    · cases s with
      | nil => exact go [] (by rw [if_neg c1, if_neg c2, if_pos c3]) (by unfold zq_nstep; rw [if_neg c1, if_neg c2, if_pos c3])
      | cons t s => exact go ((t.1, fun k w => (t.2 k w).map (fun x => -x)) :: s) (by rw [if_neg c1, if_neg c2, if_pos c3]) (by unfold zq_nstep; rw [if_neg c1, if_neg c2, if_pos c3]; rfl)
    match s with
    | [] => exact go [] (by rw [if_neg c1, if_neg c2, if_neg c3]) (by unfold zq_nstep; rw [if_neg c1, if_neg c2, if_neg c3]; rfl)
    | [t] => exact go [t] (by rw [if_neg c1, if_neg c2, if_neg c3]) (by unfold zq_nstep; rw [if_neg c1, if_neg c2, if_neg c3]; rfl)
    | b :: a :: s =>
      by_cases c4 : a.1 ≠ [] ∧ b.1 ≠ [] ∧ a.1.map (zq_nmx T) ≠ b.1.map (zq_nmx T)
      · have es : zq_nstep T ((b :: a :: s).map Prod.fst, -1) o = (a.1 :: s.map Prod.fst, o.2.2.1) := by
          unfold zq_nstep; rw [if_neg c1, if_neg c2, if_neg c3]
          show (if a.1 = [] then _ else if b.1 = [] then _ else if (-1 : Int) = -1 ∧ _ then _ else _) = _
          rw [if_neg c4.1, if_neg c4.2.1, if_pos ⟨rfl, c4.2.2⟩]
        have hp := hpl o (by simp) c1 c2 c3
        rw [es]
        have ncl := zq_nrun_cl T r (a.1 :: s.map Prod.fst, o.2.2.1) (by show o.2.2.1 ≠ -1; omega)
        have e5 : zq_pbd (if o.1 = 302 then Except.ok (([], fun k w => if k = [] ∧ w < W then some o.2.1 else none) :: b :: a :: s) else if o.1 = 310 then Except.ok ((o.2.2.2.2.1, zq_funT T lb pts fr wd W o.2.2.1 o.2.2.2.2.1 o.2.2.2.2.2) :: b :: a :: s) else if o.1 = 311 then Except.ok ((b.1, fun k w => (b.2 k w).map (fun x => -x)) :: a :: s) else if a.1 ≠ [] ∧ b.1 ≠ [] ∧ a.1.map (zq_nmx T) ≠ b.1.map (zq_nmx T) then Except.error (5, o.2.2.1) else Except.ok (zq_joinT o.1 a b :: s)) (zq_rO (zq_stp1 T lb pts fr wd W) r) = Except.error (5, o.2.2.1) := by
          rw [if_neg c1, if_neg c2, if_neg c3, if_pos c4]; rfl
        refine ⟨fun st' h => ?_, fun st' cl hcl h => ?_⟩
        · rw [h] at ncl; exact absurd ncl (by show ¬ (-1 = o.2.2.1); omega)
        · rw [h] at ncl
          have : cl = o.2.2.1 := ncl
          rw [this]; exact e5
      · refine go (zq_joinT o.1 a b :: s) (by rw [if_neg c1, if_neg c2, if_neg c3]; exact if_neg c4) ?_
        unfold zq_nstep; rw [if_neg c1, if_neg c2, if_neg c3]
        show (if a.1 = [] then _ else if b.1 = [] then _ else if (-1 : Int) = -1 ∧ _ then _ else _) = ((if a.1 = [] then b.1 else a.1) :: s.map Prod.fst, -1)
        by_cases d1 : a.1 = []
        · rw [if_pos d1, if_pos d1]
        · rw [if_neg d1, if_neg d1]
          by_cases d2 : b.1 = []
          · rw [if_pos d2]
          · rw [if_neg d2, if_neg (fun z => c4 ⟨d1, d2, z.2⟩)]
set_option maxRecDepth 100000 in
/-- without a clash all tables have the same names -/
theorem zq_all_names : ∀ (os : List zq_Od) (st : List (List zq_NM)) (ns : List zq_NM), (∀ o ∈ os, o.1 ≠ 302 → o.1 ≠ 310 → o.1 ≠ 311 → 0 ≤ o.2.2.1) → zq_nrun T os (st, -1) = ([ns], -1) → (∀ a ∈ st, a ≠ [] → a.map (zq_nmx T) = ns.map (zq_nmx T)) ∧ (∀ o ∈ os, o.1 = 310 → o.2.2.2.2.1 ≠ [] → o.2.2.2.2.1.map (zq_nmx T) = ns.map (zq_nmx T))
  | [], st, ns, _, h => by
    injection h with h1 h2
    subst h1
    refine ⟨fun a ha _ => by simp at ha; rw [ha], fun o ho => by simp at ho⟩
  | o :: r, st, ns, hpl, h => by
    have hplr : ∀ o ∈ r, o.1 ≠ 302 → o.1 ≠ 310 → o.1 ≠ 311 → 0 ≤ o.2.2.1 := fun o ho => hpl o (List.mem_cons_of_mem _ ho)
    have h' : zq_nrun T r (zq_nstep T (st, -1) o) = ([ns], -1) := h
    have go : ∀ st1, zq_nstep T (st, -1) o = (st1, -1) → (∀ a ∈ st1, a ≠ [] → a.map (zq_nmx T) = ns.map (zq_nmx T)) ∧ (∀ o ∈ r, o.1 = 310 → o.2.2.2.2.1 ≠ [] → o.2.2.2.2.1.map (zq_nmx T) = ns.map (zq_nmx T)) := fun st1 e => by
      rw [e] at h'; exact zq_all_names r st1 ns hplr h'
    by_cases c1 : o.1 = 302
    · obtain ⟨g1, g2⟩ := go ([] :: st) (by unfold zq_nstep; rw [if_pos c1])
      refine ⟨fun a ha => g1 a (List.mem_cons_of_mem _ ha), fun o' ho' z => ?_⟩
      rcases List.mem_cons.mp ho' with rfl | q
      · omega
      · exact g2 o' q z
    by_cases c2 : o.1 = 310
    · obtain ⟨g1, g2⟩ := go (o.2.2.2.2.1 :: st) (by unfold zq_nstep; rw [if_neg c1, if_pos c2])
      refine ⟨fun a ha => g1 a (List.mem_cons_of_mem _ ha), fun o' ho' z z2 => ?_⟩
      rcases List.mem_cons.mp ho' with rfl | q
      · exact g1 _ (by simp) z2
      · exact g2 o' q z z2
    have rest : ∀ (st1 : List (List zq_NM)), ((∀ a ∈ st1, a ≠ [] → a.map (zq_nmx T) = ns.map (zq_nmx T)) ∧ (∀ o ∈ r, o.1 = 310 → o.2.2.2.2.1 ≠ [] → o.2.2.2.2.1.map (zq_nmx T) = ns.map (zq_nmx T))) → (∀ a ∈ st, a ≠ [] → a.map (zq_nmx T) = ns.map (zq_nmx T)) → (∀ a ∈ st, a ≠ [] → a.map (zq_nmx T) = ns.map (zq_nmx T)) ∧ (∀ o' ∈ o :: r, o'.1 = 310 → o'.2.2.2.2.1 ≠ [] → o'.2.2.2.2.1.map (zq_nmx T) = ns.map (zq_nmx T)) := by
      intro st1 g hst
      refine ⟨hst, fun o' ho' z z2 => ?_⟩
      rcases List.mem_cons.mp ho' with rfl | q
      · exact absurd z c2
      · exact g.2 o' q z z2
    by_cases c3 : o.1 = 311
    · have g := go st (by unfold zq_nstep; rw [if_neg c1, if_neg c2, if_pos c3])
      exact rest st g g.1
    match st, h, h', go, rest with
    | [], h, h', go, rest =>
      have g := go [] (by unfold zq_nstep; rw [if_neg c1, if_neg c2, if_neg c3])
      exact rest [] g g.1
    | [t], h, h', go, rest =>
      have g := go [t] (by unfold zq_nstep; rw [if_neg c1, if_neg c2, if_neg c3])
      exact rest [t] g g.1
    | b :: a :: s, h, h', go, rest =>
      have es : zq_nstep T (b :: a :: s, -1) o = if a = [] then (b :: s, -1) else if b = [] then (a :: s, -1) else if a.map (zq_nmx T) ≠ b.map (zq_nmx T) then (a :: s, o.2.2.1) else (a :: s, -1) := by
        unfold zq_nstep; rw [if_neg c1, if_neg c2, if_neg c3]
        show (if a = [] then _ else if b = [] then _ else if (-1 : Int) = -1 ∧ _ then _ else _) = _
        simp
      by_cases d1 : a = []
      · have g := go (b :: s) (by rw [es, if_pos d1])
        refine rest _ g (fun x hx z => ?_)
        rcases List.mem_cons.mp hx with rfl | q
        · exact g.1 _ (by simp) z
        · rcases List.mem_cons.mp q with rfl | q
          · exact absurd d1 z
          · exact g.1 x (List.mem_cons_of_mem _ q) z
      by_cases d2 : b = []
      · have g := go (a :: s) (by rw [es, if_neg d1, if_pos d2])
        refine rest _ g (fun x hx z => ?_)
        rcases List.mem_cons.mp hx with rfl | q
        · exact absurd d2 z
        · exact g.1 x q z
      by_cases zq_d3 : a.map (zq_nmx T) ≠ b.map (zq_nmx T)
      · exfalso
        have hp := hpl o (by simp) c1 c2 c3
        rw [es, if_neg d1, if_neg d2, if_pos zq_d3] at h'
        have ncl := zq_nrun_cl T r (a :: s, o.2.2.1) (by show o.2.2.1 ≠ -1; omega)
        rw [h'] at ncl
        exact absurd ncl (by show ¬ (-1 = o.2.2.1); omega)
      · have g := go (a :: s) (by rw [es, if_neg d1, if_neg d2, if_neg zq_d3])
        have d3' : a.map (zq_nmx T) = b.map (zq_nmx T) := Classical.not_not.mp zq_d3
        refine rest _ g (fun x hx z => ?_)
        rcases List.mem_cons.mp hx with rfl | q
        · rw [← d3']; exact g.1 a (by simp) d1
        · exact g.1 x q z
end
/-! the value of a label, in the reference -/
set_option maxRecDepth 100000 in
theorem zq_E_v37 {M : MS} (k26 : Int → Int → Int → Int → MS → Option (Int × MS)) (v2 v3 v4 v5 : Int) : ∀ (xs : List Int) (f : Nat) (p : Int), zq_aH M.m_texts p (xs ++ [61]) → (∀ b ∈ xs, zq_byt b ∧ b ≠ 61) → 0 ≤ p → p + xs.length < 78128 → xs.length < f → q_Mo_valueOf_37 k26 f v2 v3 v4 v5 p M = q_Mo_valueOf_59 k26 fU v2 v3 v4 v5 (p + xs.length) (p + xs.length) M
  | xs, 0, p => by omega
  | [], f + 1, p => by
    intro h1 h2 h3 h4 h5
    have e : M.m_texts p = 61 := by have := h1 0 61 rfl; simpa using this
    rw [q_Mo_valueOf_37, if_pos ⟨h3, by simp at h4; omega⟩, e, if_pos (by decide)]; simp
  | x :: r, f + 1, p => by
    intro h1 h2 h3 h4 h5
    have e : M.m_texts p = x := by have := h1 0 x rfl; simpa using this
    have hx := h2 x (by simp)
    have hb := hx.1
    unfold zq_byt at hb
    simp only [List.length_cons] at h4 h5
    rw [q_Mo_valueOf_37, if_pos ⟨h3, by omega⟩, e, zq_w32i (z := x) (by omega) (by omega), if_neg hx.2]
    rw [zq_E_v37 k26 v2 v3 v4 v5 r f (p + 1) (fun i y hy => by
      have := h1 (i + 1) y (by simpa using hy)
      rw [show p + ((i + 1 : Nat) : Int) = p + 1 + (i : Int) by omega] at this; exact this) (fun b hb => h2 b (List.mem_cons_of_mem _ hb)) (by omega) (by omega) (by omega)]
    rw [show p + 1 + ((r.length : Nat) : Int) = p + (((x :: r).length : Nat) : Int) by simp; omega]
set_option maxRecDepth 100000 in
theorem zq_E_v59 {M : MS} (k26 : Int → Int → Int → Int → MS → Option (Int × MS)) (v2 v3 v4 v5 v6 : Int) (hv4 : v4 ≤ 78128) : ∀ (xs : List Int) (f : Nat) (p : Int), zq_aH M.m_texts p xs → (∀ b ∈ xs, zq_byt b ∧ b ≠ 44) → 0 ≤ p → (p + xs.length = v4 ∨ (p + xs.length < v4 ∧ M.m_texts (p + xs.length) = 44)) → xs.length < f → q_Mo_valueOf_59 k26 f v2 v3 v4 v5 v6 p M = q_Mo_valueOf_84 k26 v2 v3 v4 v5 v6 (p + xs.length) M
  | xs, 0, p => by omega
  | [], f + 1, p => by
    intro h1 h2 h3 h4 h5
    simp only [List.length_nil] at h4 ⊢
    rw [q_Mo_valueOf_59, zq_w32i (z := v4) (by omega) (by omega), zq_w32i (z := p) (by omega) (by omega)]
    rcases h4 with h4 | h4
    · rw [if_pos (by omega)]; simp
    · rw [if_neg (by omega), if_pos ⟨h3, by omega⟩]
      have e : M.m_texts p = 44 := by have := h4.2; simpa using this
      rw [e, if_pos (by decide)]; simp
  | x :: r, f + 1, p => by
    intro h1 h2 h3 h4 h5
    have e : M.m_texts p = x := by have := h1 0 x rfl; simpa using this
    have hx := h2 x (by simp)
    have hb := hx.1
    unfold zq_byt at hb
    simp only [List.length_cons] at h4 h5
    rw [q_Mo_valueOf_59, zq_w32i (z := v4) (by omega) (by omega), zq_w32i (z := p) (by omega) (by omega), if_neg (by omega), if_pos ⟨h3, by omega⟩, e, zq_w32i (z := x) (by omega) (by omega), if_neg hx.2]
    have e2 : p + 1 + ((r.length : Nat) : Int) = p + ((r.length + 1 : Nat) : Int) := by omega
    rw [zq_E_v59 k26 v2 v3 v4 v5 v6 hv4 r f (p + 1) (fun i y hy => by
      have := h1 (i + 1) y (by simpa using hy)
      rw [show p + ((i + 1 : Nat) : Int) = p + 1 + (i : Int) by omega] at this; exact this) (fun b hb => h2 b (List.mem_cons_of_mem _ hb)) (by omega) (by rw [e2]; exact h4) (by omega), e2]
    rfl
set_option maxRecDepth 100000 in
theorem zq_E_v103 {T : Int → Int} {n w : Int} {M : MS} (h : zq_MB T n w M) (k26 : Int → Int → Int → Int → MS → Option (Int × MS)) {v2 : Int} {xs : List Int} (v4 v5 v6 v7 : Int) (ht : zq_aH M.m_texts v5 xs) (hb : ∀ b ∈ xs, zq_wdB b = true) (h5 : 0 ≤ v5 ∧ v5 + xs.length ≤ 78000) (h2 : 0 ≤ v2 ∧ v2 + xs.length ≤ n) : ∀ (f j : Nat) (d : Prop) [Decidable d], j ≤ xs.length → xs.length - j < f → q_Mo_valueOf_103 k26 f v2 xs.length v4 v5 v6 v7 (zq_b01 d) j M = q_Mo_valueOf_149 k26 v2 xs.length v4 v6 v7 (zq_b01 (d ∧ xs.drop j = zq_slF T (xs.length - j) (v2 + j))) M
  | 0, j, d, _ => by omega
  | f + 1, j, d, _ => by
    intro h1 hf
    have hn := h.2.2.2.1
    rw [q_Mo_valueOf_103, zq_w32i (z := (xs.length : Int)) (by omega) (by omega), zq_w32i (z := (j : Int)) (by omega) (by omega)]
    by_cases c1 : xs.length ≤ j
    · rw [if_pos (by omega), show xs.length - j = 0 by omega, List.drop_eq_nil_of_le c1]
      congr 1; apply zq_b01_i; simp [zq_slF]
    · rw [if_neg (by omega)]
      by_cases c2 : d
      · have hx : xs[j]? = some (xs[j]'(by omega)) := List.getElem?_eq_getElem _
        have et := ht j _ hx
        have hw := (zq_wdB_iff _).mp (hb _ (List.mem_of_getElem? hx))
        rw [if_neg (by rw [zq_b01_0]; simp [c2]), if_pos ⟨by omega, by omega⟩, if_pos ⟨by omega, by omega⟩, et, List.drop_eq_getElem_cons (show j < xs.length by omega)]
        generalize xs[j]'(by omega) = x at *
        have tb := h.1.2.2 (v2 + j)
        have eT : T (v2 + j) = M.m_tape (v2 + j) % 256 := by rw [← h.2.1]; exact if_pos ⟨by omega, by have := h.2.2.1; omega⟩
        have eq : (w32 x = w32 (M.m_tape (v2 + j))) ↔ x = T (v2 + j) := by
          rw [zq_w32i (z := x) (by omega) (by omega), zq_w32i (z := M.m_tape (v2 + j)) (by omega) (by omega), eT]; omega
        have e3 : (if w32 x = w32 (M.m_tape (v2 + j)) then q_Mo_valueOf_141 k26 (q_Mo_valueOf_103 k26 f) v2 xs.length v4 v5 v6 v7 j 1 M else q_Mo_valueOf_141 k26 (q_Mo_valueOf_103 k26 f) v2 xs.length v4 v5 v6 v7 j 0 M) = q_Mo_valueOf_103 k26 f v2 xs.length v4 v5 v6 v7 (zq_b01 (x = T (v2 + j))) ((j + 1 : Nat) : Int) M := by
          rw [show ((j + 1 : Nat) : Int) = (j : Int) + 1 by omega]
          unfold zq_b01
          by_cases c3 : x = T (v2 + j)
          · rw [if_pos (eq.mpr c3), if_pos c3]; rfl
          · rw [if_neg (fun z => c3 (eq.mp z)), if_neg c3]; rfl
        rw [e3, zq_E_v103 h k26 v4 v5 v6 v7 ht hb h5 h2 f (j + 1) (x = T (v2 + j)) (by omega) (by omega)]
        congr 1; apply zq_b01_i
        rw [show xs.length - j = (xs.length - (j + 1)) + 1 by omega, zq_slF, List.cons.injEq, show v2 + (j : Int) + 1 = v2 + ((j + 1 : Nat) : Int) by omega]
        exact ⟨fun z => ⟨c2, z⟩, fun z => z.2⟩
      · rw [if_pos (by rw [zq_b01_0]; exact c2)]
        congr 1; apply zq_b01_i
        exact ⟨fun z => absurd z c2, fun z => absurd z.1 c2⟩
set_option maxRecDepth 100000 in
/-- the value found: its place and text -/
def zq_VR (M : MS) (v : List Int) (pos : Int) : Prop := v ≠ [] → zq_aH M.m_texts pos v ∧ 0 ≤ pos ∧ pos + v.length ≤ 78000
set_option maxRecDepth 100000 in
theorem zq_aH_drop {f : Int → Int} {p : Int} {a b : List Int} (h : zq_aH f p (a ++ b)) : zq_aH f (p + a.length) b := by
  intro i x hx
  have := h (a.length + i) x (by rw [List.getElem?_append_right (by omega), Nat.add_sub_cancel_left]; exact hx)
  rw [show p + ((a.length + i : Nat) : Int) = p + a.length + i by omega] at this; exact this
set_option maxRecDepth 100000 in
theorem zq_aH_take {f : Int → Int} {p : Int} {a b : List Int} (h : zq_aH f p (a ++ b)) : zq_aH f p a := by
  intro i x hx
  exact h i x (by rw [List.getElem?_append_left (List.getElem?_eq_some_iff.mp hx).1]; exact hx)
set_option maxRecDepth 100000 in
theorem zq_E_v26 {T : Int → Int} {n w : Int} {M : MS} (h : zq_MB T n w M) {y : zq_NM} (hy : 0 ≤ y.1 ∧ 0 ≤ y.2 ∧ y.1 + y.2 ≤ n) : ∀ (l : zq_LB) (f : Nat) (p v4 : Int), (∀ x ∈ l, (1 ≤ x.1.length ∧ x.1.length ≤ 24) ∧ (1 ≤ x.2.length ∧ x.2.length ≤ 24) ∧ (∀ b ∈ x.1, zq_wdB b = true) ∧ (∀ b ∈ x.2, zq_wdB b = true)) → zq_aH M.m_texts p (zq_encP l) → (l ≠ [] → v4 = p + (zq_encP l).length) → (l = [] → v4 ≤ p) → 0 ≤ p → p ≤ 78100 → 0 ≤ v4 → v4 ≤ 78000 → l.length < f → ∃ pos, q_Mo_valueOf_26 f y.1 y.2 v4 p (MS.w_m_valueLength M 0) = some (pos, MS.w_m_valueLength M (zq_vOf l (zq_nmx T y)).length) ∧ zq_VR M (zq_vOf l (zq_nmx T y)) pos
  | l, 0, p, v4 => by omega
  | [], f + 1, p, v4 => by
    intro hl ht h4 h4' hp0 hp1 hv0 hv1 hf
    refine ⟨-1, ?_, fun z => absurd rfl z⟩
    have := h4' rfl
    rw [q_Mo_valueOf_26, zq_w32i (z := v4) (by omega) (by omega), zq_w32i (z := p) (by omega) (by omega), if_pos (by omega)]; rfl
  | x :: r, f + 1, p, v4 => by
    intro hl ht h4 h4' hp0 hp1 hv0 hv1 hf
    have hv4 := h4 (by simp)
    have hx := hl x (by simp)
    have hn := h.2.2.2.1
    -- the text of this label, and what follows
    have ee : ∃ rest : List Int, zq_encP (x :: r) = x.1 ++ (61 :: x.2) ++ rest ∧ ((r = [] ∧ rest = []) ∨ (r ≠ [] ∧ rest = 44 :: zq_encP r)) := by
      cases r with
      | nil => exact ⟨[], by simp [zq_encP], Or.inl ⟨rfl, rfl⟩⟩
      | cons z r => exact ⟨44 :: zq_encP (z :: r), by simp [zq_encP], Or.inr ⟨by simp, rfl⟩⟩
    obtain ⟨rest, e1, e2⟩ := ee
    rw [e1] at ht hv4
    have hlen : (((x.1 ++ (61 :: x.2) ++ rest).length : Nat) : Int) = x.1.length + 1 + x.2.length + rest.length := by simp; omega
    rw [hlen] at hv4
    have hrl : rest.length ≤ 78000 := by omega
    have t1 : zq_aH M.m_texts p x.1 := zq_aH_take (zq_aH_take ht)
    have t2 : zq_aH M.m_texts (p + x.1.length) (61 :: x.2) := zq_aH_drop (zq_aH_take ht)
    have t3 : zq_aH M.m_texts (p + x.1.length + 1) x.2 := by
      intro i z hz
      have := t2 (i + 1) z (by simpa using hz)
      rw [show p + (x.1.length : Int) + ((i + 1 : Nat) : Int) = p + x.1.length + 1 + i by omega] at this; exact this
    have t4 : zq_aH M.m_texts (p + x.1.length + 1 + x.2.length) rest := by
      have := zq_aH_drop ht
      rw [show p + (((x.1 ++ (61 :: x.2)).length : Nat) : Int) = p + x.1.length + 1 + x.2.length by simp; omega] at this
      exact this
    have s1 : q_Mo_valueOf_26 (f + 1) y.1 y.2 v4 p (MS.w_m_valueLength M 0) = q_Mo_valueOf_84 (q_Mo_valueOf_26 f) y.1 y.2 v4 p (p + x.1.length) (p + x.1.length + 1 + x.2.length) (MS.w_m_valueLength M 0) := by
      rw [q_Mo_valueOf_26, zq_w32i (z := v4) (by omega) (by omega), zq_w32i (z := p) (by omega) (by omega), if_neg (by omega)]
      rw [zq_E_v37 (M := MS.w_m_valueLength M 0) (q_Mo_valueOf_26 f) y.1 y.2 v4 p x.1 fU p (by
        refine zq_aH_app t1 ?_
        intro i z hz
        cases i with
        | zero => simp at hz; subst hz; have := t2 0 61 rfl; simpa using this
        | succ i => simp at hz) (fun b hb => by have := (zq_wdB_iff b).mp (hx.2.2.1 b hb); exact ⟨zq_wdB_byt (hx.2.2.1 b hb), by omega⟩) hp0 (by omega) (zq_fU_gt (by omega))]
      rw [zq_E_v59 (M := MS.w_m_valueLength M 0) (q_Mo_valueOf_26 f) y.1 y.2 v4 p (p + x.1.length) (by omega) (61 :: x.2) fU (p + x.1.length) t2 (fun b hb => by
        rcases List.mem_cons.mp hb with rfl | hb
        · exact ⟨by unfold zq_byt; omega, by omega⟩
        · have := (zq_wdB_iff b).mp (hx.2.2.2 b hb); exact ⟨zq_wdB_byt (hx.2.2.2 b hb), by omega⟩) (by omega) (by
          rcases e2 with ⟨_, e2⟩ | ⟨_, e2⟩
          · left; rw [e2] at hv4; simp at hv4 ⊢; omega
          · right
            have := t4 0 44 (by rw [e2]; rfl)
            rw [e2] at hv4
            refine ⟨by simp at hv4 ⊢; omega, ?_⟩
            rw [show p + (x.1.length : Int) + (((61 :: x.2).length : Nat) : Int) = p + x.1.length + 1 + x.2.length + ((0 : Nat) : Int) by simp; omega]
            exact this) (zq_fU_gt (by simp; omega))]
      rw [show p + (x.1.length : Int) + (((61 :: x.2).length : Nat) : Int) = p + x.1.length + 1 + x.2.length by simp; omega]
    rw [s1]
    have ih : ∃ pos, q_Mo_valueOf_26 f y.1 y.2 v4 (p + x.1.length + 1 + x.2.length + 1) (MS.w_m_valueLength M 0) = some (pos, MS.w_m_valueLength M (zq_vOf r (zq_nmx T y)).length) ∧ zq_VR M (zq_vOf r (zq_nmx T y)) pos := by
      refine zq_E_v26 h hy r f (p + x.1.length + 1 + x.2.length + 1) v4 (fun z hz => hl z (List.mem_cons_of_mem _ hz)) ?_ ?_ ?_ (by omega) ?_ hv0 hv1 (by simp at hf; omega)
      · rcases e2 with ⟨e3, e2⟩ | ⟨_, e2⟩
        · rw [e3]; intro i z hz; simp [zq_encP] at hz
        · rw [e2] at t4
          intro i z hz
          have := t4 (i + 1) z (by simpa using hz)
          rw [show p + (x.1.length : Int) + 1 + x.2.length + ((i + 1 : Nat) : Int) = p + x.1.length + 1 + x.2.length + 1 + i by omega] at this; exact this
      · intro hr
        rcases e2 with ⟨e3, e2⟩ | ⟨_, e2⟩
        · exact absurd e3 hr
        · rw [e2] at hv4; simp at hv4; omega
      · intro hr
        rcases e2 with ⟨e3, e2⟩ | ⟨e3, e2⟩
        · rw [e2] at hv4; simp at hv4; omega
        · exact absurd hr e3
      · omega
    have fin : ∀ (d : Prop) [Decidable d], (d ↔ x.1 = zq_nmx T y) → ∃ pos, q_Mo_valueOf_149 (q_Mo_valueOf_26 f) y.1 y.2 v4 (p + x.1.length) (p + x.1.length + 1 + x.2.length) (zq_b01 d) (MS.w_m_valueLength M 0) = some (pos, MS.w_m_valueLength M (zq_vOf (x :: r) (zq_nmx T y)).length) ∧ zq_VR M (zq_vOf (x :: r) (zq_nmx T y)) pos := by
      intro d _ hd
      rw [q_Mo_valueOf_149]
      by_cases c : d
      · have ev : zq_vOf (x :: r) (zq_nmx T y) = x.2 := by
          unfold zq_vOf; rw [List.find?_cons_of_pos (by simp [hd.mp c])]
        rw [if_neg (by rw [zq_b01_0]; simp [c]), ev]
        refine ⟨p + x.1.length + 1, ?_, fun _ => ⟨t3, by omega, by omega⟩⟩
        rw [show p + (x.1.length : Int) + 1 + x.2.length - (p + x.1.length) - 1 = x.2.length by omega]
        try rfl
      · have ev : zq_vOf (x :: r) (zq_nmx T y) = zq_vOf r (zq_nmx T y) := by
          unfold zq_vOf; rw [List.find?_cons_of_neg (by simp; exact fun z => c (hd.mpr z))]
        rw [if_pos (by rw [zq_b01_0]; exact c), ev]
        exact ih
    have enm : zq_nmx T y = zq_slF T y.2.toNat y.1 := by unfold zq_nmx zq_sl; rw [show y.1 + y.2 - y.1 = y.2 by omega]
    rw [q_Mo_valueOf_84, show p + (x.1.length : Int) - p = x.1.length by omega, zq_w32i (z := (x.1.length : Int)) (by omega) (by omega), zq_w32i (z := y.2) (by omega) (by omega)]
    by_cases c1 : (x.1.length : Int) = y.2
    · rw [if_pos c1, q_Mo_valueOf_98, ← c1]
      have := zq_E_v103 (M := MS.w_m_valueLength M 0) h (q_Mo_valueOf_26 f) (v2 := y.1) v4 p (p + x.1.length) (p + x.1.length + 1 + x.2.length) t1 hx.2.2.1 (by omega) (by omega) fU 0 True (by omega) (zq_fU_gt (by omega))
      rw [show zq_b01 True = 1 from if_pos trivial, show ((0 : Nat) : Int) = 0 from rfl] at this
      have e149 : ∀ b, q_Mo_valueOf_149 (q_Mo_valueOf_26 f) y.1 (x.1.length : Int) v4 (p + x.1.length) (p + x.1.length + 1 + x.2.length) b (MS.w_m_valueLength M 0) = q_Mo_valueOf_149 (q_Mo_valueOf_26 f) y.1 y.2 v4 (p + x.1.length) (p + x.1.length + 1 + x.2.length) b (MS.w_m_valueLength M 0) := fun b => by rw [c1]
      rw [this, e149]
      apply fin
      rw [enm, show y.1 + 0 = y.1 by omega, Nat.sub_zero, List.drop_zero, show x.1.length = y.2.toNat by omega]
      simp
    · rw [if_neg c1, q_Mo_valueOf_98]
      have e : q_Mo_valueOf_103 (q_Mo_valueOf_26 f) fU y.1 y.2 v4 p (p + x.1.length) (p + x.1.length + 1 + x.2.length) 0 0 (MS.w_m_valueLength M 0) = q_Mo_valueOf_149 (q_Mo_valueOf_26 f) y.1 y.2 v4 (p + x.1.length) (p + x.1.length + 1 + x.2.length) 0 (MS.w_m_valueLength M 0) := by
        rw [show fU = 999999 + 1 from rfl, q_Mo_valueOf_103]
        by_cases z : w32 y.2 ≤ w32 0
        · rw [if_pos z]
        · rw [if_neg z, if_pos (by decide)]
      rw [e]
      have := fin False ⟨fun z => z.elim, fun z => c1 (by rw [z, enm, zq_slF_len]; omega)⟩
      rw [show zq_b01 False = 0 from if_neg (fun z => z)] at this
      exact this
set_option maxRecDepth 100000 in
/-- what the reference keeps of series, points and windows -/
def zq_CX (lb : Nat → zq_LB) (N : Nat) (pts : List zq_P4) (fr wd : Int64) (W : Nat) (M : MS) : Prop := (M.m_windows = W ∧ 1 ≤ W ∧ W ≤ 64) ∧ (M.m_width = wd ∧ M.m_windowsFrom = fr ∧ 1 ≤ wd.toInt ∧ wd.toInt ≤ 1099511627775 ∧ 0 ≤ fr.toInt ∧ fr.toInt ≤ 1099511627775) ∧ (zq_mpts M = pts ∧ zq_mpI M ∧ M.m_points ≤ 640 ∧ ∀ x ∈ pts, (0 ≤ x.1 ∧ x.1 < (N : Int)) ∧ (x.2.2.2 = 0 ∨ x.2.2.2 = 1) ∧ (0 ≤ x.2.1.toInt ∧ x.2.1.toInt ≤ 1099511627775)) ∧ (M.m_seriesCount = N ∧ N ≤ 256) ∧ ∀ i, i < N → zq_okB (lb i) ∧ zq_aH M.m_texts (304 * (i : Int)) (zq_encP (lb i)) ∧ M.m_textLengths (i : Int) = (zq_encP (lb i)).length
set_option maxRecDepth 100000 in
theorem zq_CX_KF {lb : Nat → zq_LB} {N : Nat} {pts : List zq_P4} {fr wd : Int64} {W : Nat} {M M' : MS} (h : zq_CX lb N pts fr wd W M) (hk : zq_KF M M') : zq_CX lb N pts fr wd W M' := by
  unfold zq_KF zq_kf at hk
  simp only [Prod.mk.injEq] at hk
  obtain ⟨k1, k2, k3, k4, k5, k6, k7, k8, k9, k10, k11, k12, k13, k14, k15, k16, k17, k18, k19, k20, k21⟩ := hk
  obtain ⟨h1, h2, h3, h4, h5⟩ := h
  refine ⟨by rw [k17]; exact h1, by rw [k18, k19]; exact h2, ⟨?_, ?_, by rw [k7]; exact h3.2.2.1, h3.2.2.2⟩, by rw [k3]; exact h4, fun i hi => by rw [k4, k5]; exact h5 i hi⟩
  · rw [← h3.1]; unfold zq_mpts zq_pg4; rw [k7, k8, k9, k10, k11]
  · have := h3.2.1; unfold zq_mpI at this ⊢; rw [k7, k8, k11]; exact this
set_option maxRecDepth 100000 in
theorem zq_r_valueOf {T : Int → Int} {n w : Int} {lb : Nat → zq_LB} {N : Nat} {pts : List zq_P4} {fr wd : Int64} {W : Nat} {M : MS} (h : zq_MB T n w M) (hc : zq_CX lb N pts fr wd W M) {y : zq_NM} (hy : 0 ≤ y.1 ∧ 0 ≤ y.2 ∧ y.1 + y.2 ≤ n) {i : Nat} (hi : i < N) : ∃ pos, s_Mo_valueOf M (i : Int) y.1 y.2 = some (pos, MS.w_m_valueLength M (zq_vOf (lb i) (zq_nmx T y)).length) ∧ zq_VR M (zq_vOf (lb i) (zq_nmx T y)) pos := by
  obtain ⟨o1, o2, o3⟩ := hc.2.2.2.2 i hi
  have hN := hc.2.2.2.1.2
  have hl := zq_okB_len o1
  rw [s_Mo_valueOf, if_pos ⟨by omega, by omega⟩, o3]
  refine zq_E_v26 h hy (lb i) fU (304 * (i : Int)) (304 * (i : Int) + (zq_encP (lb i)).length) o1.2.1 o2 (fun _ => rfl) (fun z => by rw [z]; simp [zq_encP]) (by omega) (by omega) (by omega) (by omega) (zq_fU_gt (by have := o1.1; omega))
/-! tokens, back to bytes -/
set_option maxRecDepth 100000 in
theorem zq_tok_inv {T : Int → Int} {n : Int} (hT : zq_tpT T n) (p : Int) : (zq_tK T n p = 303 → zq_nmB (T (zq_tA T n p)) = true ∧ zq_tB T n p = zq_nmE T n (zq_tA T n p)) ∧ (zq_tK T n p = 304 → T (zq_tA T n p) = 34 ∧ zq_tB T n p = zq_qtE T n (zq_tA T n p + 1) + 1 ∧ T (zq_qtE T n (zq_tA T n p + 1)) = 34) ∧ (∀ v, (v = 44 ∨ v = 125 ∨ v = 61) → zq_tK T n p = v → T (zq_tA T n p) = v ∧ zq_tB T n p = zq_tA T n p + 1) ∧ (zq_tK T n p = 305 → T (zq_tA T n p) = 33 ∧ T (zq_tA T n p + 1) = 61 ∧ zq_tB T n p = zq_tA T n p + 2) ∧ (zq_tK T n p = 306 → T (zq_tA T n p) = 94 ∧ T (zq_tA T n p + 1) = 61 ∧ zq_tB T n p = zq_tA T n p + 2) ∧ (zq_tK T n p = 307 → T (zq_tA T n p) = 33 ∧ T (zq_tA T n p + 1) = 94 ∧ zq_tB T n p = zq_tA T n p + 2) := by
  have e1 : zq_tK T n p = (zq_tokA T n (zq_tA T n p) (ll 0)).1 := rfl
  have e2 : zq_tB T n p = (zq_tokA T n (zq_tA T n p) (ll 0)).2.1 := rfl
  generalize zq_tA T n p = a at *
  by_cases c1 : T a = -1
  · rw [zq_tokA_fin c1] at e1
    have e1 : zq_tK T n p = 301 := e1
    refine ⟨fun h => by omega, fun h => by omega, fun v hv h => by omega, fun h => by omega, fun h => by omega, fun h => by omega⟩
  by_cases c2 : zq_dgB (T a) = true
  · rw [zq_tokA_dig c1 c2] at e1
    have g := (zq_nr_ge T (n - a).toNat a (ll 0)).2.2
    have e : (zq_nrn T n a (ll 0)).1 = (zq_nr T (n - a).toNat a (ll 0)).1 := rfl
    rw [e] at e1
    refine ⟨fun h => by omega, fun h => by omega, fun v hv h => by omega, fun h => by omega, fun h => by omega, fun h => by omega⟩
  simp at c2
  by_cases c3 : zq_nmB (T a) = true
  · rw [zq_tokA_nam c1 c2 c3] at e1 e2
    have e1 : zq_tK T n p = 303 := e1
    refine ⟨fun h => ⟨c3, e2⟩, fun h => by omega, fun v hv h => by omega, fun h => by omega, fun h => by omega, fun h => by omega⟩
  simp at c3
  by_cases c4 : T a = 34
  · rw [zq_tokA_quo c4] at e1 e2
    have e1 : zq_tK T n p = if T (zq_qtE T n (a + 1)) = 34 then 304 else 300 := e1
    have e2 : zq_tB T n p = zq_qtE T n (a + 1) + 1 := e2
    by_cases c5 : T (zq_qtE T n (a + 1)) = 34
    · rw [if_pos c5] at e1
      refine ⟨fun h => by omega, fun h => ⟨c4, e2, c5⟩, fun v hv h => by omega, fun h => by omega, fun h => by omega, fun h => by omega⟩
    · rw [if_neg c5] at e1
      refine ⟨fun h => by omega, fun h => by omega, fun v hv h => by omega, fun h => by omega, fun h => by omega, fun h => by omega⟩
  · rw [zq_tokA_sig c1 c2 c3 c4] at e1 e2
    have e1 : zq_tK T n p = zq_sgK (T a) (T (a + 1)) := e1
    have e2 : zq_tB T n p = a + (if zq_sgK (T a) (T (a + 1)) = 305 ∨ zq_sgK (T a) (T (a + 1)) = 306 ∨ zq_sgK (T a) (T (a + 1)) = 307 then 2 else 1) := e2
    rw [← e1] at e2
    unfold zq_sgK at e1
    refine ⟨fun h => ?_, fun h => ?_, fun v hv h => ?_, fun h => ?_, fun h => ?_, fun h => ?_⟩
    · exfalso; rw [h] at e1; split at e1
      · split at e1
        · omega
        · split at e1 <;> omega
      · split at e1
        · split at e1 <;> omega
        · split at e1 <;> omega
    · exfalso; rw [h] at e1; split at e1
      · split at e1
        · omega
        · split at e1 <;> omega
      · split at e1
        · split at e1 <;> omega
        · split at e1 <;> omega
    · rw [if_neg (by omega)] at e2
      refine ⟨?_, e2⟩
      rw [h] at e1; split at e1
      · split at e1
        · omega
        · split at e1 <;> omega
      · split at e1
        · split at e1 <;> omega
        · split at e1 <;> omega
    · rw [if_pos (by omega)] at e2
      rw [h] at e1; split at e1
      · rename_i z; split at e1
        · rename_i z2; exact ⟨z, z2, e2⟩
        · split at e1 <;> omega
      · split at e1
        · split at e1 <;> omega
        · split at e1 <;> omega
    · rw [if_pos (by omega)] at e2
      rw [h] at e1; split at e1
      · split at e1
        · omega
        · split at e1 <;> omega
      · split at e1
        · rename_i z; split at e1
          · rename_i z2; exact ⟨z, z2, e2⟩
          · omega
        · split at e1 <;> omega
    · rw [if_pos (by omega)] at e2
      rw [h] at e1; split at e1
      · rename_i z; split at e1
        · omega
        · split at e1
          · rename_i z2; exact ⟨z, z2, e2⟩
          · omega
      · split at e1
        · split at e1 <;> omega
        · split at e1 <;> omega
set_option maxRecDepth 100000 in
theorem zq_sp_all {T : Int → Int} {n p j : Int} (h1 : p ≤ j) (h2 : j < zq_tA T n p) : T j = 32 := by
  have := zq_rfn_all (P := fun j => T j == 32) h1 h2
  simpa using this
set_option maxRecDepth 100000 in
/-- the reference goes over spaces -/
theorem zq_E_sp5 {T : Int → Int} {n w : Int} {M : MS} (h : zq_MB T n w M) (i : Int) {p a : Int} (hp : 0 ≤ p ∧ a ≤ n) (hs : ∀ j, p ≤ j → j < a → T j = 32) : ∀ (m f : Nat) (q : Int), p ≤ q → q + m = a → q_Mo_matches_5 (f + m) i q 1 M = q_Mo_matches_5 f i a 1 M
  | 0, f, q => by intro h1 h2; rw [show q = a by omega]; rfl
  | m + 1, f, q => by
    intro h1 h2
    have hn := h.2.2.2.1
    have e := hs q h1 (by omega)
    have ea := zq_r_at h (i := q) (by omega)
    rw [e, show zq_mz 32 = 32 by decide] at ea
    rw [show f + (m + 1) = (f + m) + 1 by omega, q_Mo_matches_5, if_neg (by decide), zq_mb2_eq ea, if_neg (by decide), zq_mb2_eq ea, if_pos (by decide), q_Mo_matches_40]
    exact zq_E_sp5 h i hp hs m f (q + 1) (by omega) (by omega)
set_option maxRecDepth 100000 in
theorem zq_E_sp96 {T : Int → Int} {n w : Int} {M : MS} (h : zq_MB T n w M) (k5 : Int → Int → Int → MS → Option (Int × MS)) (i v6 v7 : Int) {p a : Int} (hp : 0 ≤ p ∧ a ≤ n) (hs : ∀ j, p ≤ j → j < a → T j = 32) : ∀ (m f : Nat) (q : Int), p ≤ q → q + m = a → q_Mo_matches_96 k5 (f + m) i q v6 v7 M = q_Mo_matches_96 k5 f i a v6 v7 M
  | 0, f, q => by intro h1 h2; rw [show q = a by omega]; rfl
  | m + 1, f, q => by
    intro h1 h2
    have hn := h.2.2.2.1
    have e := hs q h1 (by omega)
    have ea := zq_r_at h (i := q) (by omega)
    rw [e, show zq_mz 32 = 32 by decide] at ea
    rw [show f + (m + 1) = (f + m) + 1 by omega, q_Mo_matches_96, zq_mb2_eq ea, if_pos (by decide)]
    exact zq_E_sp96 h k5 i v6 v7 hp hs m f (q + 1) (by omega) (by omega)
set_option maxRecDepth 100000 in
theorem zq_E_sp172 {T : Int → Int} {n w : Int} {M : MS} (h : zq_MB T n w M) (k5 : Int → Int → Int → MS → Option (Int × MS)) (i v6 v7 v8 : Int) {p a : Int} (hp : 0 ≤ p ∧ a ≤ n) (hs : ∀ j, p ≤ j → j < a → T j = 32) : ∀ (m f : Nat) (q : Int), p ≤ q → q + m = a → q_Mo_matches_172 k5 (f + m) i q v6 v7 v8 M = q_Mo_matches_172 k5 f i a v6 v7 v8 M
  | 0, f, q => by intro h1 h2; rw [show q = a by omega]; rfl
  | m + 1, f, q => by
    intro h1 h2
    have hn := h.2.2.2.1
    have e := hs q h1 (by omega)
    have ea := zq_r_at h (i := q) (by omega)
    rw [e, show zq_mz 32 = 32 by decide] at ea
    rw [show f + (m + 1) = (f + m) + 1 by omega, q_Mo_matches_172, zq_mb2_eq ea, if_pos (by decide)]
    exact zq_E_sp172 h k5 i v6 v7 v8 hp hs m f (q + 1) (by omega) (by omega)
set_option maxRecDepth 100000 in
theorem zq_E_nm49 {T : Int → Int} {n w : Int} {M : MS} (h : zq_MB T n w M) (k5 : Int → Int → Int → MS → Option (Int × MS)) (i v5 : Int) {p a : Int} (hp : 0 ≤ p ∧ a ≤ n) (hs : ∀ j, p ≤ j → j < a → zq_nmB (T j) = true) (he : zq_nmB (T a) = false) : ∀ (m f : Nat) (q : Int), p ≤ q → q + m = a → q_Mo_matches_49 k5 (f + m + 1) i q v5 M = mb2 (s_Mo_valueOf M i v5 (a - v5)) (fun r58 S58 => q_Mo_matches_96 k5 fU i a r58 S58.m_valueLength S58)
  | m, f, q => by
    intro h1 h2
    have hn := h.2.2.2.1
    have ea := zq_r_at h (i := q) (by omega)
    have mr := zq_mz_r h q
    have e1 := zq_e_mIsLetter (b := zq_mz (T q)) ⟨by omega, by omega⟩
    have e2 := zq_e_mIsDigit (b := zq_mz (T q)) ⟨by omega, by omega⟩
    have nl := zq_nm_lt (zq_mz (T q))
    have nz : zq_nmB (zq_mz (T q)) = zq_nmB (T q) := by
      unfold zq_mz
      by_cases z : T q = -1
      · rw [if_pos z, z]; decide
      · rw [if_neg z]
    rw [nz] at nl
    rw [q_Mo_matches_49, zq_mb2_eq ea, zq_mb1_eq e1]
    cases m with
    | zero =>
      have hq : q = a := by omega
      subst hq
      rw [he] at nl
      have nl2 : zq_ltB (zq_mz (T q)) = false ∧ zq_dgB (zq_mz (T q)) = false := Bool.or_eq_false_iff.mp nl.symm
      rw [nl2.1, if_pos (by decide), zq_mb2_eq ea, zq_mb1_eq e2, nl2.2, if_pos (by decide)]
    | succ m =>
      have hq := hs q h1 (by omega)
      rw [hq] at nl
      have ih := zq_E_nm49 h k5 i v5 hp hs he m f (q + 1) (by omega) (by omega)
      rw [show f + (m + 1) = f + m + 1 by omega]
      cases h1 : zq_ltB (zq_mz (T q)) with
      | true => rw [if_neg (by decide), q_Mo_matches_71]; exact ih
      | false =>
        rw [h1] at nl
        have : zq_dgB (zq_mz (T q)) = true := by simpa using nl.symm
        rw [if_pos (by decide), zq_mb2_eq ea, zq_mb1_eq e2, this, if_neg (by decide), q_Mo_matches_71]; exact ih
set_option maxRecDepth 100000 in
theorem zq_E_qt196 {T : Int → Int} {n w : Int} {M : MS} (h : zq_MB T n w M) (k5 : Int → Int → Int → MS → Option (Int × MS)) (i v6 v7 v8 v9 : Int) {p a : Int} (hp : 0 ≤ p ∧ a ≤ n) (hs : ∀ j, p ≤ j → j < a → zq_qtB (T j) = true) (he : T a = 34) : ∀ (m f : Nat) (q : Int), p ≤ q → q + m = a → q_Mo_matches_196 k5 (f + m + 1) i q v6 v7 v8 v9 M = if w32 v7 < w32 (a - v9) then q_Mo_matches_233 k5 i (a + 1) v6 v7 v8 v9 (a - v9) 0 M else q_Mo_matches_233 k5 i (a + 1) v6 v7 v8 v9 (a - v9) 1 M
  | m, f, q => by
    intro h1 h2
    have hn := h.2.2.2.1
    have ea := zq_r_at h (i := q) (by omega)
    have mr := zq_mz_r h q
    rw [q_Mo_matches_196, zq_mb2_eq ea, zq_w32i (z := zq_mz (T q)) (by omega) (by omega)]
    cases m with
    | zero =>
      have hq : q = a := by omega
      subst hq
      rw [he, if_pos (by decide)]
    | succ m =>
      have hq := (zq_qtB_iff _).mp (hs q h1 (by omega))
      have : zq_mz (T q) ≠ 34 := by unfold zq_mz; rw [if_neg (by omega)]; omega
      rw [if_neg this, show f + (m + 1) = f + m + 1 by omega]
      exact zq_E_qt196 h k5 i v6 v7 v8 v9 hp hs he m f (q + 1) (by omega) (by omega)
set_option maxRecDepth 100000 in
/-- texts are compared from a place on -/
theorem zq_E_m238 {T : Int → Int} {n w : Int} {M : MS} (h : zq_MB T n w M) (k5 : Int → Int → Int → MS → Option (Int × MS)) (i v3 v8 : Int) {v : List Int} {v6 v9 : Int} {len : Nat} (hv : v ≠ [] → zq_aH M.m_texts v6 v ∧ 0 ≤ v6 ∧ v6 + v.length ≤ 78000) (hb : ∀ b ∈ v, zq_wdB b = true) (hvl : v.length ≤ 24) (h9 : 0 ≤ v9 ∧ v9 + len ≤ n) : ∀ (f j : Nat) (d : Prop) [Decidable d], (d → len ≤ v.length) → j ≤ len → len - j < f → q_Mo_matches_238 k5 f i v3 v6 v.length v8 v9 len (zq_b01 d) j M = q_Mo_matches_286 k5 i v3 v.length v8 len (zq_b01 (d ∧ zq_slF T (len - j) (v9 + j) = (v.drop j).take (len - j))) M
  | 0, j, d, _ => by omega
  | f + 1, j, d, _ => by
    intro hd h1 hf
    have hn := h.2.2.2.1
    rw [q_Mo_matches_238, zq_w32i (z := (len : Int)) (by omega) (by omega), zq_w32i (z := (j : Int)) (by omega) (by omega)]
    by_cases c1 : len ≤ j
    · rw [if_pos (by omega), show len - j = 0 by omega]
      congr 1; apply zq_b01_i; simp [zq_slF]
    · rw [if_neg (by omega)]
      by_cases c2 : d
      · have hlv := hd c2
        have hvne : v ≠ [] := by intro z; rw [z] at hlv; simp at hlv; omega
        obtain ⟨v1, v2, v3'⟩ := hv hvne
        have hx : v[j]? = some (v[j]'(by omega)) := List.getElem?_eq_getElem _
        have et := v1 j _ hx
        have hw := (zq_wdB_iff _).mp (hb _ (List.mem_of_getElem? hx))
        rw [if_neg (by rw [zq_b01_0]; simp [c2]), if_pos ⟨by omega, by omega⟩, if_pos ⟨by omega, by omega⟩, et]
        have ed : (v.drop j).take (len - j) = v[j]'(by omega) :: (v.drop (j + 1)).take (len - (j + 1)) := by
          rw [List.drop_eq_getElem_cons (show j < v.length by omega), show len - j = (len - (j + 1)) + 1 by omega, List.take_succ_cons]
        rw [ed]
        generalize v[j]'(by omega) = x at *
        have tb := h.1.2.2 (v9 + j)
        have eT : T (v9 + j) = M.m_tape (v9 + j) % 256 := by rw [← h.2.1]; exact if_pos ⟨by omega, by have := h.2.2.1; omega⟩
        have eq : (w32 x = w32 (M.m_tape (v9 + j))) ↔ T (v9 + j) = x := by
          rw [zq_w32i (z := x) (by omega) (by omega), zq_w32i (z := M.m_tape (v9 + j)) (by omega) (by omega), eT]; omega
        have e3 : (if w32 x = w32 (M.m_tape (v9 + j)) then q_Mo_matches_278 k5 (q_Mo_matches_238 k5 f) i v3 v6 v.length v8 v9 len j 1 M else q_Mo_matches_278 k5 (q_Mo_matches_238 k5 f) i v3 v6 v.length v8 v9 len j 0 M) = q_Mo_matches_238 k5 f i v3 v6 v.length v8 v9 len (zq_b01 (T (v9 + j) = x)) ((j + 1 : Nat) : Int) M := by
          rw [show ((j + 1 : Nat) : Int) = (j : Int) + 1 by omega]
          unfold zq_b01
          by_cases c3 : T (v9 + j) = x
          · rw [if_pos (eq.mpr c3), if_pos c3]; rfl
          · rw [if_neg (fun z => c3 (eq.mp z)), if_neg c3]; rfl
        rw [e3, zq_E_m238 h k5 i v3 v8 hv hb hvl h9 f (j + 1) (T (v9 + j) = x) (fun _ => hlv) (by omega) (by omega)]
        congr 1; apply zq_b01_i
        rw [show len - j = (len - (j + 1)) + 1 by omega, zq_slF, List.cons.injEq, show v9 + (j : Int) + 1 = v9 + ((j + 1 : Nat) : Int) by omega]
        exact ⟨fun z => ⟨c2, z⟩, fun z => z.2⟩
      · rw [if_pos (by rw [zq_b01_0]; exact c2)]
        congr 1; apply zq_b01_i
        exact ⟨fun z => absurd z c2, fun z => absurd z.1 c2⟩
set_option maxRecDepth 100000 in
theorem zq_vOf_ok {l : zq_LB} (h : zq_okB l) (nm : List Int) : (∀ b ∈ zq_vOf l nm, zq_wdB b = true) ∧ (zq_vOf l nm).length ≤ 24 := by
  unfold zq_vOf
  cases e : l.find? (fun x => x.1 == nm) with
  | none => simp
  | some x =>
    have := h.2.1 x (List.mem_of_find?_eq_some e)
    exact ⟨this.2.2.2, this.2.1.2⟩
set_option maxRecDepth 100000 in
theorem zq_pre_iff (t v : List Int) : t.isPrefixOf v = true ↔ t.length ≤ v.length ∧ t = v.take t.length := by
  rw [List.isPrefixOf_iff_prefix]
  constructor
  · intro h; exact ⟨h.length_le, List.prefix_iff_eq_take.mp h⟩
  · rintro ⟨h1, h2⟩; exact List.prefix_iff_eq_take.mpr h2
set_option maxRecDepth 100000 in
theorem zq_sl_F {T : Int → Int} {a l : Int} : zq_sl T a (a + l) = zq_slF T l.toNat a := by unfold zq_sl; rw [show a + l - a = l by omega]
set_option maxRecDepth 100000 in
/-- one match is held against a series -/
theorem zq_r_match1 {T : Int → Int} {n w : Int} {lb : Nat → zq_LB} {N : Nat} {pts : List zq_P4} {fr wd : Int64} {W : Nat} {M : MS} (h : zq_MB T n w M) (hc : zq_CX lb N pts fr wd W M) {i : Nat} (hi : i < N) {p : Int} {y : Int × zq_MT} (hp : (0 ≤ p ∧ p ≤ n) ∧ zq_tK T n p ≠ 300) (hy : zq_pMatch T n p = .ok y) (f : Nat) : ∃ vl, q_Mo_matches_49 (q_Mo_matches_5 f) fU (i : Int) (zq_tA T n p) (zq_tA T n p) M = q_Mo_matches_5 f (i : Int) y.1 (zq_b01 (zq_mtch T (lb i) y.2 = true)) (MS.w_m_valueLength M vl) ∧ zq_nmB (T (zq_tA T n p)) = true := by
  have hT := zq_MB_T h
  have hn := h.2.2.2.1
  obtain ⟨q, r, h1, h2, h3, h4⟩ := zq_pMatch_2 hy
  have a1 := zq_pTake_ge hT hp h1
  have e303 : zq_tK T n p = 303 ∧ zq_pAdv T n p = .ok q := by
    unfold zq_pTake at h1; split at h1
    · rename_i z; exact ⟨z, h1⟩
    · cases h1
  have eq : q = zq_tB T n p := by have := e303.2; unfold zq_pAdv at this; split at this; cases this; injection this with this; exact this.symm
  have esg : zq_isMS (zq_tK T n q) = true ∧ zq_pAdv T n q = .ok r := by
    unfold zq_pSign at h2; split at h2
    · rename_i z; exact ⟨z, h2⟩
    · cases h2
  have er : r = zq_tB T n q := by have := esg.2; unfold zq_pAdv at this; split at this; cases this; injection this with this; exact this.symm
  have a2 := zq_pAdv_ge hT ⟨a1.1, a1.2.1⟩ esg.2
  have e304 : zq_tK T n r = 304 ∧ zq_pAdv T n r = .ok y.1 := by
    unfold zq_pTake at h3; split at h3
    · rename_i z; exact ⟨z, h3⟩
    · cases h3
  have ey : y.1 = zq_tB T n r := by have := e304.2; unfold zq_pAdv at this; split at this; cases this; injection this with this; exact this.symm
  obtain ⟨i1, i2⟩ := (zq_tok_inv hT p).1 e303.1
  obtain ⟨j1, j2, j3⟩ := (zq_tok_inv hT r).2.1 e304.1
  have R := (zq_tok_R hT hp.1.1 hp.1.2).2.1 (by omega)
  have R2 := R.2.2 hp.2
  have gp := zq_tA_ge T n p; have gq := zq_tA_ge T n q; have gr := zq_tA_ge T n r
  have kq := zq_tK_set T n q
  have nq : zq_tK T n q ≠ 301 := by have := esg.1; unfold zq_isMS at this; simp at this; omega
  have Rq := (zq_tok_R hT a1.1.1 a1.1.2).2.1 nq
  have Rq2 := Rq.2.2 a1.2.1
  have Rr := (zq_tok_R hT a2.1.1 a2.1.2).2.1 (by omega)
  have Rr2 := Rr.2.2 (by omega)
  have Rr4 := (zq_tok_R hT a2.1.1 a2.1.2).2.2.2 e304.1
  -- the name
  have nmall : ∀ j, zq_tA T n p ≤ j → j < zq_tB T n p → zq_nmB (T j) = true := fun j z1 z2 => by
    rw [i2] at z2; exact zq_rfn_all (P := fun j => zq_nmB (T j)) z1 z2
  have nmend : zq_nmB (T (zq_tB T n p)) = false := by
    by_cases z : zq_tB T n p < n
    · rw [i2] at z ⊢; exact zq_rfn_end (P := fun j => zq_nmB (T j)) z
    · have : T (zq_tB T n p) = -1 := (hT.2 _).mpr (by omega)
      rw [this]; decide
  have s1 := zq_E_nm49 h (q_Mo_matches_5 f) (i : Int) (zq_tA T n p) (p := zq_tA T n p) (a := zq_tB T n p) (by omega) nmall nmend (zq_tB T n p - zq_tA T n p).toNat (999999 - (zq_tB T n p - zq_tA T n p).toNat) (zq_tA T n p) (by omega) (by omega)
  rw [show 999999 - (zq_tB T n p - zq_tA T n p).toNat + (zq_tB T n p - zq_tA T n p).toNat + 1 = fU by show _ = 1000000; omega] at s1
  rw [s1]
  have hyv : 0 ≤ (zq_tA T n p, zq_tB T n p - zq_tA T n p).1 ∧ 0 ≤ (zq_tA T n p, zq_tB T n p - zq_tA T n p).2 ∧ (zq_tA T n p, zq_tB T n p - zq_tA T n p).1 + (zq_tA T n p, zq_tB T n p - zq_tA T n p).2 ≤ n := ⟨by show 0 ≤ zq_tA T n p; omega, by show 0 ≤ zq_tB T n p - zq_tA T n p; omega, by show zq_tA T n p + (zq_tB T n p - zq_tA T n p) ≤ n; omega⟩
  obtain ⟨pos, v1, v2⟩ := zq_r_valueOf h hc hyv hi
  rw [zq_mb2_eq v1]
  have hvok := zq_vOf_ok (hc.2.2.2.2 i hi).1 (zq_nmx T (zq_tA T n p, zq_tB T n p - zq_tA T n p))
  generalize hvv : zq_vOf (lb i) (zq_nmx T (zq_tA T n p, zq_tB T n p - zq_tA T n p)) = v at *
  refine ⟨(v.length : Int), ?_, i1⟩
  generalize hM2 : MS.w_m_valueLength M (v.length : Int) = M2
  have hB2 : zq_MB T n w M2 := by rw [← hM2]; exact h
  have v2' : v ≠ [] → zq_aH M2.m_texts pos v ∧ 0 ≤ pos ∧ pos + v.length ≤ 78000 := by rw [← hM2]; exact v2
  rw [show M2.m_valueLength = (v.length : Int) by rw [← hM2]]
  -- to the sign
  have s2 := zq_E_sp96 hB2 (q_Mo_matches_5 f) (i : Int) pos (v.length : Int) (p := q) (a := zq_tA T n q) (by omega) (fun j z1 z2 => zq_sp_all z1 z2) (zq_tA T n q - q).toNat (1000000 - (zq_tA T n q - q).toNat) q (by omega) (by omega)
  rw [show 1000000 - (zq_tA T n q - q).toNat + (zq_tA T n q - q).toNat = fU by show _ = 1000000; omega, eq] at s2
  rw [← eq] at s2
  rw [← eq, s2]
  obtain ⟨g, hg⟩ : ∃ g, 1000000 - (zq_tA T n q - q).toNat = g + 1 := ⟨1000000 - (zq_tA T n q - q).toNat - 1, by omega⟩
  rw [hg]
  have e0 := zq_r_at hB2 (i := zq_tA T n q) (by omega)
  have e1 := zq_r_at hB2 (i := zq_tA T n q + 1) (by omega)
  have TI := zq_tok_inv hT q
  -- the sign
  have sgn : q_Mo_matches_96 (q_Mo_matches_5 f) (g + 1) (i : Int) (zq_tA T n q) pos v.length M2 = q_Mo_matches_172 (q_Mo_matches_5 f) fU (i : Int) r pos v.length (if zq_tK T n q = 61 then 0 else if zq_tK T n q = 305 then 1 else if zq_tK T n q = 306 then 2 else 3) M2 := by
    have hms := esg.1
    unfold zq_isMS at hms; simp at hms
    rw [q_Mo_matches_96]
    rcases hms with z | z | z | z
    · obtain ⟨t1, t2⟩ := TI.2.2.1 61 (by omega) z
      rw [t1, show zq_mz 61 = 61 by decide] at e0
      rw [zq_mb2_eq e0, if_neg (by decide), zq_mb2_eq e0, if_pos (by decide), q_Mo_matches_157, if_pos (by decide), q_Mo_matches_170, if_pos z, er, t2]
    · obtain ⟨t1, t2, t3⟩ := TI.2.2.2.1 z
      rw [t1, show zq_mz 33 = 33 by decide] at e0
      rw [t2, show zq_mz 61 = 61 by decide] at e1
      rw [zq_mb2_eq e0, if_neg (by decide), zq_mb2_eq e0, if_neg (by decide), zq_mb2_eq e1, if_pos (by decide), zq_mb2_eq e0, if_pos (by decide), q_Mo_matches_157, if_neg (by decide), q_Mo_matches_170, if_neg (by omega), if_pos z, er, t3]
    · obtain ⟨t1, t2, t3⟩ := TI.2.2.2.2.1 z
      rw [t1, show zq_mz 94 = 94 by decide] at e0
      rw [t2, show zq_mz 61 = 61 by decide] at e1
      rw [zq_mb2_eq e0, if_neg (by decide), zq_mb2_eq e0, if_neg (by decide), zq_mb2_eq e1, if_pos (by decide), zq_mb2_eq e0, if_neg (by decide), q_Mo_matches_157, if_neg (by decide), q_Mo_matches_170, if_neg (by omega), if_neg (by omega), if_pos z, er, t3]
    · obtain ⟨t1, t2, t3⟩ := TI.2.2.2.2.2 z
      rw [t1, show zq_mz 33 = 33 by decide] at e0
      rw [t2, show zq_mz 94 = 94 by decide] at e1
      rw [zq_mb2_eq e0, if_neg (by decide), zq_mb2_eq e0, if_neg (by decide), zq_mb2_eq e1, if_neg (by decide), q_Mo_matches_157, if_neg (by decide), q_Mo_matches_170, if_neg (by omega), if_neg (by omega), if_neg (by omega), er, t3]
  rw [sgn]
  generalize hv8 : (if zq_tK T n q = 61 then (0 : Int) else if zq_tK T n q = 305 then 1 else if zq_tK T n q = 306 then 2 else 3) = v8
  -- to the text
  have s3 := zq_E_sp172 hB2 (q_Mo_matches_5 f) (i : Int) pos (v.length : Int) v8 (p := r) (a := zq_tA T n r) (by omega) (fun j z1 z2 => zq_sp_all z1 z2) (zq_tA T n r - r).toNat (1000000 - (zq_tA T n r - r).toNat) r (by omega) (by omega)
  rw [show 1000000 - (zq_tA T n r - r).toNat + (zq_tA T n r - r).toNat = fU by show _ = 1000000; omega] at s3
  rw [s3]
  obtain ⟨g2, hg2⟩ : ∃ g2, 1000000 - (zq_tA T n r - r).toNat = g2 + 1 := ⟨1000000 - (zq_tA T n r - r).toNat - 1, by omega⟩
  have e3 := zq_r_at hB2 (i := zq_tA T n r) (by omega)
  rw [j1, show zq_mz 34 = 34 by decide] at e3
  rw [hg2, q_Mo_matches_172, zq_mb2_eq e3, if_neg (by decide)]
  have eend : zq_qtE T n (zq_tA T n r + 1) = zq_tB T n r - 1 := by omega
  have s4 := zq_E_qt196 hB2 (q_Mo_matches_5 f) (i : Int) pos (v.length : Int) v8 (zq_tA T n r + 1) (p := zq_tA T n r + 1) (a := zq_tB T n r - 1) (by omega) (fun j z1 z2 => by rw [← eend] at z2; exact zq_rfn_all (P := fun j => zq_qtB (T j)) z1 z2) (by rw [← eend]; exact j3) (zq_tB T n r - 1 - (zq_tA T n r + 1)).toNat (999999 - (zq_tB T n r - 1 - (zq_tA T n r + 1)).toNat) (zq_tA T n r + 1) (by omega) (by omega)
  rw [show 999999 - (zq_tB T n r - 1 - (zq_tA T n r + 1)).toNat + (zq_tB T n r - 1 - (zq_tA T n r + 1)).toNat + 1 = fU by show _ = 1000000; omega] at s4
  rw [s4]
  -- the compare
  obtain ⟨len, hlen⟩ : ∃ len : Nat, zq_tB T n r - 1 - (zq_tA T n r + 1) = len := ⟨(zq_tB T n r - 1 - (zq_tA T n r + 1)).toNat, by omega⟩
  have hv24 := hvok.2
  rw [hlen, zq_w32i (z := (v.length : Int)) (by omega) (by omega), zq_w32i (z := (len : Int)) (by omega) (by omega), show zq_tB T n r - 1 + 1 = y.1 by omega]
  have s5 : (if (v.length : Int) < (len : Int) then q_Mo_matches_233 (q_Mo_matches_5 f) (i : Int) y.1 pos v.length v8 (zq_tA T n r + 1) len 0 M2 else q_Mo_matches_233 (q_Mo_matches_5 f) (i : Int) y.1 pos v.length v8 (zq_tA T n r + 1) len 1 M2) = q_Mo_matches_286 (q_Mo_matches_5 f) (i : Int) y.1 v.length v8 len (zq_b01 (len ≤ v.length ∧ zq_slF T len (zq_tA T n r + 1) = v.take len)) M2 := by
    have key : ∀ (d : Prop) [Decidable d], (d ↔ len ≤ v.length) → q_Mo_matches_233 (q_Mo_matches_5 f) (i : Int) y.1 pos v.length v8 (zq_tA T n r + 1) len (zq_b01 d) M2 = q_Mo_matches_286 (q_Mo_matches_5 f) (i : Int) y.1 v.length v8 len (zq_b01 (len ≤ v.length ∧ zq_slF T len (zq_tA T n r + 1) = v.take len)) M2 := by
      intro d _ hd
      rw [q_Mo_matches_233]
      have := zq_E_m238 hB2 (q_Mo_matches_5 f) (i : Int) y.1 v8 (v := v) (v6 := pos) (v9 := zq_tA T n r + 1) (len := len) v2' hvok.1 hv24 (by omega) fU 0 d (fun z => hd.mp z) (by omega) (zq_fU_gt (by omega))
      rw [show ((0 : Nat) : Int) = 0 from rfl] at this
      rw [show zq_tA T n r + 1 + 0 = zq_tA T n r + 1 by omega, Nat.sub_zero, List.drop_zero] at this
      have eb : zq_b01 (d ∧ zq_slF T len (zq_tA T n r + 1) = v.take len) = zq_b01 (len ≤ v.length ∧ zq_slF T len (zq_tA T n r + 1) = v.take len) := zq_b01_i _ _ (by rw [hd])
      rw [this, eb]
    by_cases z : (v.length : Int) < len
    · rw [if_pos z]
      have := key False ⟨fun q => q.elim, fun q => by omega⟩
      rw [show zq_b01 False = 0 from if_neg (fun z => z)] at this
      exact this
    · rw [if_neg z]
      have := key True ⟨fun q => by omega, fun q => trivial⟩
      rw [show zq_b01 True = 1 from if_pos trivial] at this
      exact this
  rw [s5]
  -- what the match says
  have etx : zq_sl T (zq_tA T n r + 1) (zq_tA T n r + 1 + (zq_tB T n r - 1 - (zq_tA T n r + 1))) = zq_slF T len (zq_tA T n r + 1) := by
    rw [zq_sl_F, hlen, Int.toNat_natCast]
  have pre : (len ≤ v.length ∧ zq_slF T len (zq_tA T n r + 1) = v.take len) ↔ (zq_slF T len (zq_tA T n r + 1)).isPrefixOf v = true := by
    rw [zq_pre_iff, zq_slF_len]
  have eqv : ((len ≤ v.length ∧ zq_slF T len (zq_tA T n r + 1) = v.take len) ∧ v.length = len) ↔ v = zq_slF T len (zq_tA T n r + 1) := by
    constructor
    · rintro ⟨⟨z1, z2⟩, z3⟩; rw [z2, ← z3, List.take_length]
    · intro z
      have zl : v.length = len := by rw [z, zq_slF_len]
      exact ⟨⟨by omega, by rw [← zl, List.take_length, zl]; exact z.symm⟩, zl⟩
  have mdef : zq_mtch T (lb i) y.2 = if zq_tK T n q = 61 then v == zq_slF T len (zq_tA T n r + 1) else if zq_tK T n q = 305 then !(v == zq_slF T len (zq_tA T n r + 1)) else if zq_tK T n q = 306 then (zq_slF T len (zq_tA T n r + 1)).isPrefixOf v else !((zq_slF T len (zq_tA T n r + 1)).isPrefixOf v) := by
    rw [h4]; unfold zq_mtch; simp only; rw [etx, hvv]
  rw [q_Mo_matches_286]
  have fin : ∀ (E P : Prop) [Decidable E] [Decidable P], (P ↔ (zq_slF T len (zq_tA T n r + 1)).isPrefixOf v = true) → (E ↔ v = zq_slF T len (zq_tA T n r + 1)) → q_Mo_matches_303 (q_Mo_matches_5 f) (i : Int) y.1 v8 (zq_b01 P) (zq_b01 E) M2 = q_Mo_matches_5 f (i : Int) y.1 (zq_b01 (zq_mtch T (lb i) y.2 = true)) M2 := by
    intro E P _ _ hP hE
    rw [q_Mo_matches_303]
    have hms := esg.1
    unfold zq_isMS at hms; simp at hms
    rcases hms with z | z | z | z
    · have md : zq_mtch T (lb i) y.2 = (v == zq_slF T len (zq_tA T n r + 1)) := by rw [mdef, if_pos z]
      rw [if_pos z] at hv8
      rw [← hv8, if_pos (by decide), q_Mo_matches_355, md]; congr 1; apply zq_b01_i; rw [hE, beq_iff_eq]
    · have md : zq_mtch T (lb i) y.2 = !(v == zq_slF T len (zq_tA T n r + 1)) := by rw [mdef, if_neg (by omega), if_pos z]
      rw [if_neg (by omega), if_pos z] at hv8
      rw [← hv8, if_neg (by decide), if_pos (by decide), md]
      by_cases zq_cE : E
      · have e0 : zq_b01 ((!(v == zq_slF T len (zq_tA T n r + 1))) = true) = 0 := if_neg (by rw [beq_iff_eq.mpr (hE.mp zq_cE)]; decide)
        rw [if_neg (by rw [zq_b01_0]; simp [zq_cE]), q_Mo_matches_355, e0]
      · have e0 : zq_b01 ((!(v == zq_slF T len (zq_tA T n r + 1))) = true) = 1 := if_pos (by
          have : (v == zq_slF T len (zq_tA T n r + 1)) = false := by
            cases hh : (v == zq_slF T len (zq_tA T n r + 1)) with
            | true => exact absurd (hE.mpr (beq_iff_eq.mp hh)) zq_cE
            | false => rfl
          rw [this]; rfl)
        rw [if_pos (by rw [zq_b01_0]; exact zq_cE), q_Mo_matches_355, e0]
    · have md : zq_mtch T (lb i) y.2 = (zq_slF T len (zq_tA T n r + 1)).isPrefixOf v := by rw [mdef, if_neg (by omega), if_neg (by omega), if_pos z]
      rw [if_neg (by omega), if_neg (by omega), if_pos z] at hv8
      rw [← hv8, if_neg (by decide), if_neg (by decide), if_pos (by decide), q_Mo_matches_355, md]; congr 1; apply zq_b01_i; exact hP
    · have md : zq_mtch T (lb i) y.2 = !((zq_slF T len (zq_tA T n r + 1)).isPrefixOf v) := by rw [mdef, if_neg (by omega), if_neg (by omega), if_neg (by omega)]
      rw [if_neg (by omega), if_neg (by omega), if_neg (by omega)] at hv8
      rw [← hv8, if_neg (by decide), if_neg (by decide), if_neg (by decide), md]
      by_cases cP : P
      · have e0 : zq_b01 ((!((zq_slF T len (zq_tA T n r + 1)).isPrefixOf v)) = true) = 0 := if_neg (by rw [hP.mp cP]; decide)
        rw [if_neg (by rw [zq_b01_0]; simp [cP]), q_Mo_matches_355, e0]
      · have e0 : zq_b01 ((!((zq_slF T len (zq_tA T n r + 1)).isPrefixOf v)) = true) = 1 := if_pos (by
          cases hh : (zq_slF T len (zq_tA T n r + 1)).isPrefixOf v with
          | true => exact absurd (hP.mpr hh) cP
          | false => rfl)
        rw [if_pos (by rw [zq_b01_0]; exact cP), q_Mo_matches_355, e0]
  rw [zq_w32i (z := (v.length : Int)) (by omega) (by omega), zq_w32i (z := (len : Int)) (by omega) (by omega)]
  by_cases cp : len ≤ v.length ∧ zq_slF T len (zq_tA T n r + 1) = v.take len
  · rw [if_neg (by rw [zq_b01_0]; simp only [Classical.not_not]; exact cp)]
    by_cases ce : (v.length : Int) = len
    · rw [if_pos ce]
      have := fin True (len ≤ v.length ∧ zq_slF T len (zq_tA T n r + 1) = v.take len) pre ⟨fun _ => eqv.mp ⟨cp, by omega⟩, fun _ => trivial⟩
      rw [show zq_b01 True = 1 from if_pos trivial] at this
      exact this
    · rw [if_neg ce, q_Mo_matches_302]
      have := fin False (len ≤ v.length ∧ zq_slF T len (zq_tA T n r + 1) = v.take len) pre ⟨fun q => q.elim, fun q => ce (by have := (eqv.mpr q).2; omega)⟩
      rw [show zq_b01 False = 0 from if_neg (fun z => z)] at this
      exact this
  · rw [if_pos (by rw [zq_b01_0]; exact cp), q_Mo_matches_302]
    have := fin False (len ≤ v.length ∧ zq_slF T len (zq_tA T n r + 1) = v.take len) pre ⟨fun q => q.elim, fun q => cp (eqv.mpr q).1⟩
    rw [show zq_b01 False = 0 from if_neg (fun z => z)] at this
    exact this
set_option maxRecDepth 100000 in
theorem zq_b01_T : zq_b01 True = 1 := if_pos trivial
set_option maxRecDepth 100000 in
theorem zq_b01_F : zq_b01 False = 0 := if_neg (fun z => z)
set_option maxRecDepth 100000 in
theorem zq_b01_t {P : Prop} [Decidable P] (h : P) : zq_b01 P = 1 := if_pos h
set_option maxRecDepth 100000 in
theorem zq_b01_f {P : Prop} [Decidable P] (h : ¬ P) : zq_b01 P = 0 := if_neg h
set_option maxRecDepth 100000 in
/-- the reference comes to the next token -/
theorem zq_E_to {T : Int → Int} {n w : Int} {M : MS} (h : zq_MB T n w M) (i : Int) {p : Int} (hp : 0 ≤ p ∧ p ≤ n) {f : Nat} (hf : n - p + 2 ≤ f) : ∃ f1 : Nat, q_Mo_matches_5 f i p 1 M = q_Mo_matches_5 (f1 + 1) i (zq_tA T n p) 1 M ∧ n - zq_tA T n p + 1 ≤ (f1 : Int) := by
  have g := zq_tA_ge T n p
  have g2 := zq_tA_le (T := T) hp.2
  have := zq_E_sp5 h i (p := p) (a := zq_tA T n p) (by omega) (fun j z1 z2 => zq_sp_all z1 z2) (zq_tA T n p - p).toNat (f - (zq_tA T n p - p).toNat) p (by omega) (by omega)
  rw [show f - (zq_tA T n p - p).toNat + (zq_tA T n p - p).toNat = f by omega] at this
  refine ⟨f - (zq_tA T n p - p).toNat - 1, ?_, by omega⟩
  rw [this, show f - (zq_tA T n p - p).toNat - 1 + 1 = f - (zq_tA T n p - p).toNat by omega]
set_option maxRecDepth 100000 in
theorem zq_E_m5end {T : Int → Int} {n w : Int} {M : MS} (h : zq_MB T n w M) (i : Int) {p : Int} (hp : 0 ≤ p ∧ p ≤ n) (hk : zq_tK T n p = 125) {f : Nat} (hf : n - p + 2 ≤ f) (d : Prop) [Decidable d] : q_Mo_matches_5 f i p (zq_b01 d) M = some (zq_b01 d, M) := by
  have hn := h.2.2.2.1
  have g := zq_tA_ge T n p
  have g2 := zq_tA_le (T := T) hp.2
  by_cases c : d
  · obtain ⟨f1, e1, -⟩ := zq_E_to h i hp hf
    have ea := zq_r_at h (i := zq_tA T n p) (by omega)
    rw [((zq_tok_inv (zq_MB_T h) p).2.2.1 125 (by omega) hk).1, show zq_mz 125 = 125 by decide] at ea
    rw [zq_b01_t c, e1, q_Mo_matches_5, if_neg (by decide), zq_mb2_eq ea, if_pos (by decide), if_pos (Or.inr rfl)]
  · obtain ⟨g, rfl⟩ : ∃ g, f = g + 1 := ⟨f - 1, by omega⟩
    rw [zq_b01_f c, q_Mo_matches_5, if_pos (by decide), if_pos (Or.inl rfl)]
set_option maxRecDepth 100000 in
theorem zq_E_m5 {T : Int → Int} {n w : Int} {lb : Nat → zq_LB} {N : Nat} {pts : List zq_P4} {fr wd : Int64} {W : Nat} {i : Nat} (hi : i < N) : ∀ (m : Nat) (ms0 : List zq_MT) (p : Int) (y : Int × List zq_MT) (f : Nat) (M : MS) (d : Prop) [Decidable d], zq_MB T n w M → zq_CX lb N pts fr wd W M → zq_pMatches T n m ms0 p = .ok y → zq_tK T n y.1 = 125 → (0 ≤ p ∧ p ≤ n) ∧ zq_tK T n p ≠ 300 → n - p + 2 ≤ f → ∃ ms' vl, y.2 = ms0 ++ ms' ∧ q_Mo_matches_5 f (i : Int) p (zq_b01 d) M = some (zq_b01 (d ∧ ms'.all (zq_mtch T (lb i)) = true), MS.w_m_valueLength M vl)
  | 0, ms0, p, y, f, M, d, _ => by
    intro h hc hy hk hp hf
    rw [zq_pMatches] at hy; cases hy
    refine ⟨[], M.m_valueLength, by simp, ?_⟩
    rw [zq_E_m5end h (i : Int) hp.1 hk hf d]
    have e : zq_b01 (d ∧ ([] : List zq_MT).all (zq_mtch T (lb i)) = true) = zq_b01 d := zq_b01_i _ _ (by simp)
    rw [e]
  | m + 1, ms0, p, y, f, M, d, _ => by
    intro h hc hy hk hp hf
    have hT := zq_MB_T h
    have hn := h.2.2.2.1
    rw [zq_pMatches] at hy
    cases h1 : zq_pMatch T n p with
    | error e => rw [h1] at hy; cases hy
    | ok y1 =>
      rw [h1, zq_pbd_ok] at hy
      have a1 := zq_pMatch_ge hT hp h1
      have gp := zq_tA_ge T n p
      have gpl := zq_tA_le (T := T) hp.1.2
      have zq_gy := zq_tA_ge T n y1.1
      have gyl := zq_tA_le (T := T) a1.1.2
      have hy1 : zq_tA T n p + 1 ≤ y1.1 := by
        obtain ⟨q, r, z1, z2, z3, z4⟩ := zq_pMatch_2 h1
        have b1 := zq_pTake_ge hT hp z1
        unfold zq_pSign at z2; split at z2
        · have b2 := zq_pAdv_ge hT ⟨b1.1, b1.2.1⟩ z2
          have e304 : zq_tK T n r = 304 ∧ zq_pAdv T n r = .ok y1.1 := by
            unfold zq_pTake at z3; split at z3
            · rename_i z; exact ⟨z, z3⟩
            · cases z3
          have ey : y1.1 = zq_tB T n r := by have := e304.2; unfold zq_pAdv at this; split at this; cases this; injection this with this; exact this.symm
          have Rr := (zq_tok_R hT b2.1.1 b2.1.2).2.1 (by omega)
          omega
        · cases z2
      -- the rest, whatever this match says
      have rest : ∀ (f2 : Nat) (M2 : MS) (e : Prop) [Decidable e], zq_MB T n w M2 → zq_CX lb N pts fr wd W M2 → n - y1.1 + 2 ≤ f2 → ∃ ms' vl, y.2 = ms0 ++ (y1.2 :: ms') ∧ q_Mo_matches_5 f2 (i : Int) y1.1 (zq_b01 e) M2 = some (zq_b01 (e ∧ ms'.all (zq_mtch T (lb i)) = true), MS.w_m_valueLength M2 vl) := by
        intro f2 M2 e _ hB2 hC2 hf2
        by_cases c4 : zq_tK T n y1.1 = 44
        · rw [if_pos c4] at hy
          cases h2 : zq_pAdv T n y1.1 with
          | error e => rw [h2] at hy; cases hy
          | ok q =>
            rw [h2, zq_pbd_ok] at hy
            have a2 := zq_pAdv_ge hT ⟨a1.1, a1.2.1⟩ h2
            have eq : q = zq_tB T n y1.1 := by unfold zq_pAdv at h2; split at h2; cases h2; injection h2 with h2; exact h2.symm
            have t44 := (zq_tok_inv hT y1.1).2.2.1 44 (by omega) c4
            by_cases ce : e
            · obtain ⟨f3, e1, e2⟩ := zq_E_to hB2 (i : Int) a1.1 hf2
              have ea := zq_r_at hB2 (i := zq_tA T n y1.1) (by omega)
              rw [t44.1, show zq_mz 44 = 44 by decide] at ea
              have s1 : q_Mo_matches_5 (f3 + 1) (i : Int) (zq_tA T n y1.1) 1 M2 = q_Mo_matches_5 f3 (i : Int) q 1 M2 := by
                rw [q_Mo_matches_5, if_neg (by decide), zq_mb2_eq ea, if_neg (by decide), zq_mb2_eq ea, if_neg (by decide), zq_mb2_eq ea, if_pos (by decide), q_Mo_matches_40, eq, t44.2]
              obtain ⟨ms', vl, i1, i2⟩ := zq_E_m5 hi m (ms0 ++ [y1.2]) q y f3 M2 True hB2 hC2 hy hk ⟨a2.1, a2.2.1⟩ (by omega)
              refine ⟨ms', vl, by rw [i1]; simp, ?_⟩
              rw [zq_b01_t ce, e1, s1]
              rw [zq_b01_T] at i2
              rw [i2]
              have : zq_b01 (True ∧ ms'.all (zq_mtch T (lb i)) = true) = zq_b01 (e ∧ ms'.all (zq_mtch T (lb i)) = true) := zq_b01_i _ _ (by simp [ce])
              rw [this]
            · obtain ⟨ms', vl, i1, i2⟩ := zq_E_m5 hi m (ms0 ++ [y1.2]) q y 1000000 M2 False hB2 hC2 hy hk ⟨a2.1, a2.2.1⟩ (by omega)
              obtain ⟨g, rfl⟩ : ∃ g, f2 = g + 1 := ⟨f2 - 1, by omega⟩
              refine ⟨ms', M2.m_valueLength, by rw [i1]; simp, ?_⟩
              rw [zq_b01_f ce, q_Mo_matches_5, if_pos (by decide), if_pos (Or.inl rfl), zq_b01_f (fun z => ce z.1)]
        · rw [if_neg c4] at hy
          cases hy
          refine ⟨[], M2.m_valueLength, rfl, ?_⟩
          rw [zq_E_m5end hB2 (i : Int) a1.1 hk hf2 e]
          have e9 : zq_b01 (e ∧ ([] : List zq_MT).all (zq_mtch T (lb i)) = true) = zq_b01 e := zq_b01_i _ _ (by simp)
          rw [e9]
      by_cases c : d
      · obtain ⟨f1, e1, e2⟩ := zq_E_to h (i : Int) hp.1 hf
        obtain ⟨vl, g1, g2⟩ := zq_r_match1 h hc hi hp h1 f1
        have ea := zq_r_at h (i := zq_tA T n p) (by omega)
        have hnm := (zq_nmB_iff _).mp g2
        have ez : zq_mz (T (zq_tA T n p)) = T (zq_tA T n p) := by unfold zq_mz; rw [if_neg (by omega)]
        rw [ez] at ea
        have s1 : q_Mo_matches_5 (f1 + 1) (i : Int) (zq_tA T n p) 1 M = q_Mo_matches_49 (q_Mo_matches_5 f1) fU (i : Int) (zq_tA T n p) (zq_tA T n p) M := by
          rw [q_Mo_matches_5, if_neg (by decide), zq_mb2_eq ea, zq_w32i (z := T (zq_tA T n p)) (by omega) (by omega), if_neg (by omega), zq_mb2_eq ea, zq_w32i (z := T (zq_tA T n p)) (by omega) (by omega), if_neg (by omega), zq_mb2_eq ea, zq_w32i (z := T (zq_tA T n p)) (by omega) (by omega), if_neg (by omega)]
        obtain ⟨ms', vl2, i1, i2⟩ := rest f1 (MS.w_m_valueLength M vl) (zq_mtch T (lb i) y1.2 = true) h (zq_CX_KF hc rfl) (by omega)
        refine ⟨y1.2 :: ms', vl2, i1, ?_⟩
        rw [zq_b01_t c, e1, s1, g1, i2]
        have : zq_b01 (zq_mtch T (lb i) y1.2 = true ∧ ms'.all (zq_mtch T (lb i)) = true) = zq_b01 (d ∧ (y1.2 :: ms').all (zq_mtch T (lb i)) = true) := zq_b01_i _ _ (by simp [c])
        rw [this]
      · obtain ⟨ms', vl, i1, -⟩ := rest 1000000 M True h hc (by omega)
        obtain ⟨g, rfl⟩ : ∃ g, f = g + 1 := ⟨f - 1, by omega⟩
        refine ⟨y1.2 :: ms', M.m_valueLength, i1, ?_⟩
        rw [zq_b01_f c, q_Mo_matches_5, if_pos (by decide), if_pos (Or.inl rfl), zq_b01_f (fun z => c z.1)]
set_option maxRecDepth 100000 in
/-- where a function's selection lies -/
theorem zq_OkF_sel {T : Int → Int} {n kd q0 : Int} {ns : List zq_NM} {ms : List zq_MT} (hT : zq_tpT T n) (h : zq_OkF T n kd q0 ns ms) : ((0 ≤ q0 ∧ q0 ≤ n) ∧ zq_tK T n q0 ≠ 300) ∧ ((zq_tK T n q0 = 125 ∧ ms = []) ∨ ∃ y, zq_pMatches T n n.toNat [] q0 = .ok y ∧ zq_tK T n y.1 = 125 ∧ y.2 = ms) := by
  obtain ⟨p, y, hp, h1, h2, h3, h4⟩ := h
  unfold zq_pFunc at h3
  have k303 := zq_fnK_303 (by rw [h1]; exact h2 : zq_fnK T n p ≠ -1)
  cases e1 : zq_pAdv T n p with
  | error e => rw [e1] at h3; cases h3
  | ok q =>
    rw [e1, zq_pbd_ok] at h3
    have a1 := zq_pAdv_ge hT ⟨hp, by omega⟩ e1
    cases e2 : zq_pBy T n q with
    | error e => rw [e2] at h3; cases h3
    | ok y2 =>
      rw [e2, zq_pbd_ok, zq_pSel_1] at h3
      have a2 := zq_pBy_ge hT ⟨a1.1, a1.2.1⟩ e2
      cases e3 : zq_pSel1 T n y2.1 with
      | error e => rw [e3] at h3; cases h3
      | ok z =>
        rw [e3, zq_pbd_ok] at h3
        cases e4 : zq_pTake T n 41 z.1 with
        | error e => rw [e4] at h3; cases h3
        | ok q4 =>
          rw [e4, zq_pbd_ok, zq_pbd_ok] at h3
          cases h3
          have h4 : [((310 : Int), ll 0, kd, z.2.1, y2.2, z.2.2)] = [((310 : Int), ll 0, kd, q0, ns, ms)] := h4
          simp only [List.cons.injEq, Prod.mk.injEq, and_true, true_and] at h4
          obtain ⟨h5, h6, h7⟩ := h4
          unfold zq_pSel1 at e3
          cases g1 : zq_pTake T n 40 y2.1 with
          | error e => rw [g1] at e3; cases e3
          | ok r0 =>
            rw [g1, zq_pbd_ok] at e3
            have b1 := zq_pTake_ge hT ⟨a2.1, a2.2.1⟩ g1
            cases g2 : zq_pTake T n 123 r0 with
            | error e => rw [g2] at e3; cases e3
            | ok r1 =>
              rw [g2, zq_pbd_ok] at e3
              have b2 := zq_pTake_ge hT ⟨b1.1, b1.2.1⟩ g2
              have er : r1 = zq_tB T n r0 := by
                unfold zq_pTake at g2; split at g2
                · unfold zq_pAdv at g2; split at g2
                  · cases g2
                  · injection g2 with g2; exact g2.symm
                · cases g2
              have tk : ∀ (v : Int) (q : Int), zq_pTake T n 125 v = .ok q → zq_tK T n v = 125 := fun v q hq => by
                unfold zq_pTake at hq; split at hq
                · assumption
                · cases hq
              by_cases c : zq_tK T n r1 = 125
              · rw [if_pos c, zq_pbd_ok] at e3
                cases g3 : zq_pTake T n 125 r1 with
                | error e =>
                  have e3 : zq_pbd (zq_pTake T n 125 r1) (fun q => Except.ok (q, zq_tB T n r0, ([] : List zq_MT))) = .ok z := e3
                  rw [g3] at e3; cases e3
                | ok q5 =>
                  have e3 : zq_pbd (zq_pTake T n 125 r1) (fun q => Except.ok (q, zq_tB T n r0, ([] : List zq_MT))) = .ok z := e3
                  rw [g3, zq_pbd_ok] at e3
                  cases e3
                  have : q0 = r1 := by rw [er]; exact h5.symm
                  rw [this]
                  exact ⟨⟨b2.1, b2.2.1⟩, Or.inl ⟨c, h7.symm⟩⟩
              · rw [if_neg c] at e3
                cases g3 : zq_pMatches T n n.toNat [] r1 with
                | error e => rw [g3] at e3; cases e3
                | ok y5 =>
                  rw [g3, zq_pbd_ok] at e3
                  cases g4 : zq_pTake T n 125 y5.1 with
                  | error e => rw [g4] at e3; cases e3
                  | ok q5 =>
                    rw [g4, zq_pbd_ok] at e3
                    cases e3
                    have : q0 = r1 := by rw [er]; exact h5.symm
                    rw [this]
                    exact ⟨⟨b2.1, b2.2.1⟩, Or.inr ⟨y5, g3, tk _ _ g4, h7⟩⟩
set_option maxRecDepth 100000 in
theorem zq_r_matches {T : Int → Int} {n w : Int} {lb : Nat → zq_LB} {N : Nat} {pts : List zq_P4} {fr wd : Int64} {W : Nat} {M : MS} (h : zq_MB T n w M) (hc : zq_CX lb N pts fr wd W M) {i : Nat} (hi : i < N) {kd q0 : Int} {ns : List zq_NM} {ms : List zq_MT} (ho : zq_OkF T n kd q0 ns ms) : ∃ vl, s_Mo_matches M (i : Int) q0 = some (zq_b01 (zq_mAll T lb ms (i : Int) = true), MS.w_m_valueLength M vl) := by
  have hn := h.2.2.2.1
  obtain ⟨hq, h2⟩ := zq_OkF_sel (zq_MB_T h) ho
  rw [s_Mo_matches]
  have hfU : (fU : Int) = 1000000 := rfl
  have em : ∀ ms' : List zq_MT, zq_mAll T lb ms' (i : Int) = ms'.all (zq_mtch T (lb i)) := fun ms' => by unfold zq_mAll; rw [Int.toNat_natCast]
  rcases h2 with ⟨c1, c2⟩ | ⟨y, c1, c2, c3⟩
  · have := zq_E_m5end h (i : Int) hq.1 c1 (f := fU) (by omega) True
    rw [zq_b01_T] at this
    refine ⟨M.m_valueLength, ?_⟩
    rw [this, c2, zq_b01_t (show zq_mAll T lb [] (i : Int) = true from rfl)]
  · obtain ⟨ms', vl, i1, i2⟩ := zq_E_m5 hi n.toNat [] q0 y fU M True h hc c1 c2 hq (by omega)
    rw [zq_b01_T] at i2
    refine ⟨vl, ?_⟩
    rw [List.nil_append] at i1
    rw [i2, em, ← c3, i1]
    have : zq_b01 (True ∧ ms'.all (zq_mtch T (lb i)) = true) = zq_b01 (ms'.all (zq_mtch T (lb i)) = true) := zq_b01_i _ _ (by simp)
    rw [this]
set_option maxRecDepth 100000 in
def zq_kcmp : zq_Key → zq_Key → Int
  | a :: r, b :: s => if zq_lexc a b = 0 then zq_kcmp r s else zq_lexc a b
  | _, _ => 0
set_option maxRecDepth 100000 in
theorem zq_kcmp_R : ∀ (a b : zq_Key), zq_kcmp a b = -1 ∨ zq_kcmp a b = 0 ∨ zq_kcmp a b = 1
  | [], [] => by simp [zq_kcmp]
  | [], _ :: _ => by simp [zq_kcmp]
  | _ :: _, [] => by simp [zq_kcmp]
  | a :: r, b :: s => by
    rw [zq_kcmp]; split
    · exact zq_kcmp_R r s
    · exact zq_lexc_R a b
set_option maxRecDepth 100000 in
theorem zq_kcmp_0 : ∀ (a b : zq_Key), a.length = b.length → (zq_kcmp a b = 0 ↔ a = b)
  | [], [], _ => by simp [zq_kcmp]
  | [], _ :: _, h => by simp at h
  | _ :: _, [], h => by simp at h
  | a :: r, b :: s, h => by
    rw [zq_kcmp]
    have ih := zq_kcmp_0 r s (by simpa using h)
    have l0 := zq_lexc_0 a b
    by_cases c : zq_lexc a b = 0
    · rw [if_pos c, ih, List.cons.injEq]; exact ⟨fun z => ⟨l0.mp c, z⟩, fun z => z.2⟩
    · rw [if_neg c, List.cons.injEq]; exact ⟨fun z => absurd z c, fun z => absurd (l0.mpr z.1) c⟩
set_option maxRecDepth 100000 in
theorem zq_kcmp_sym : ∀ (a b : zq_Key), zq_kcmp a b = - zq_kcmp b a
  | [], [] => by simp [zq_kcmp]
  | [], _ :: _ => by simp [zq_kcmp]
  | _ :: _, [] => by simp [zq_kcmp]
  | a :: r, b :: s => by
    have s1 := zq_lexc_sym a b
    rw [zq_kcmp, zq_kcmp]
    by_cases c : zq_lexc a b = 0
    · rw [if_pos c, if_pos (by omega)]; exact zq_kcmp_sym r s
    · rw [if_neg c, if_neg (by omega)]; exact s1
set_option maxRecDepth 100000 in
theorem zq_kcmp_tr : ∀ (a b c : zq_Key), a.length = b.length → b.length = c.length → zq_kcmp a b = -1 → zq_kcmp b c = -1 → zq_kcmp a c = -1
  | [], _, _, _, _, h, _ => by simp [zq_kcmp] at h
  | _ :: _, [], _, h1, _, _, _ => by simp at h1
  | _ :: _, _ :: _, [], _, h2, _, _ => by simp at h2
  | a :: r, b :: s, c :: t, h1, h2, h3, h4 => by
    rw [zq_kcmp] at h3 h4 ⊢
    have l1 := zq_lexc_0 a b; have l2 := zq_lexc_0 b c; have l3 := zq_lexc_0 a c
    by_cases c1 : zq_lexc a b = 0
    · have := l1.mp c1; subst this
      rw [if_pos c1] at h3
      by_cases c2 : zq_lexc a c = 0
      · rw [if_pos c2] at h4 ⊢
        exact zq_kcmp_tr r s t (by simpa using h1) (by simpa using h2) h3 h4
      · rw [if_neg c2] at h4 ⊢; exact h4
    · rw [if_neg c1] at h3
      by_cases c2 : zq_lexc b c = 0
      · have := l2.mp c2; subst this
        rw [if_neg c1]; exact h3
      · rw [if_neg c2] at h4
        have := zq_lexc_tr a b c h3 h4
        rw [if_neg (by omega)]; exact this
set_option maxRecDepth 100000 in
/-- two values are compared in the reference -/
theorem zq_E_cr91 {T : Int → Int} {n w : Int} {M : MS} (h : zq_MB T n w M) (k3 : Int → Int → Int → Int → MS → Option (Int × MS)) (P v2 v3 v4 : Int) {a b : List Int} {p q : Int} (ha : zq_VR M a p) (hb : zq_VR M b q) (wa : (∀ x ∈ a, zq_wdB x = true) ∧ a.length ≤ 24) (wb : (∀ x ∈ b, zq_wdB x = true) ∧ b.length ≤ 24) : ∀ (f j : Nat), j ≤ a.length → j ≤ b.length → a.length - j < f →
    (zq_lexc (a.drop j) (b.drop j) = 0 → q_Mo_compareRows_91 k3 f P v2 v3 v4 p a.length q b.length j M = k3 P v2 v3 (v4 + 1) M) ∧
    (zq_lexc (a.drop j) (b.drop j) ≠ 0 → ∃ r, q_Mo_compareRows_91 k3 f P v2 v3 v4 p a.length q b.length j M = some (r, M) ∧ -1000 ≤ r ∧ r ≤ 1000 ∧ r ≠ 0 ∧ (r < 0 ↔ zq_lexc (a.drop j) (b.drop j) = -1))
  | 0, j => by omega
  | f + 1, j => by
    intro h1 h2 hf
    have la := wa.2; have lb' := wb.2
    rw [q_Mo_compareRows_91, zq_w32i (z := (a.length : Int)) (by omega) (by omega), zq_w32i (z := (b.length : Int)) (by omega) (by omega), zq_w32i (z := (j : Int)) (by omega) (by omega)]
    have fin156 : (a.length ≤ j ∨ b.length ≤ j) → ((zq_lexc (a.drop j) (b.drop j) = 0 → q_Mo_compareRows_156 k3 P v2 v3 v4 a.length b.length M = k3 P v2 v3 (v4 + 1) M) ∧ (zq_lexc (a.drop j) (b.drop j) ≠ 0 → ∃ r, q_Mo_compareRows_156 k3 P v2 v3 v4 a.length b.length M = some (r, M) ∧ -1000 ≤ r ∧ r ≤ 1000 ∧ r ≠ 0 ∧ (r < 0 ↔ zq_lexc (a.drop j) (b.drop j) = -1))) := by
      intro hj
      rw [q_Mo_compareRows_156, zq_w32i (z := (a.length : Int)) (by omega) (by omega), zq_w32i (z := (b.length : Int)) (by omega) (by omega)]
      by_cases c1 : a.length ≤ j
      · by_cases c2 : b.length ≤ j
        · rw [List.drop_eq_nil_of_le c1, List.drop_eq_nil_of_le c2, if_pos (by omega)]
          exact ⟨fun _ => rfl, fun z => absurd (by simp [zq_lexc]) z⟩
        · rw [List.drop_eq_nil_of_le c1, List.drop_eq_getElem_cons (show j < b.length by omega), if_neg (by omega)]
          have e : zq_lexc [] (b[j]'(by omega) :: b.drop (j + 1)) = -1 := by simp [zq_lexc]
          rw [e]
          exact ⟨fun z => absurd z (by omega), fun _ => ⟨_, rfl, by omega, by omega, by omega, by omega⟩⟩
      · have c2 : b.length ≤ j := by omega
        rw [List.drop_eq_nil_of_le c2, List.drop_eq_getElem_cons (show j < a.length by omega), if_neg (by omega)]
        have e : zq_lexc (a[j]'(by omega) :: a.drop (j + 1)) [] = 1 := by simp [zq_lexc]
        rw [e]
        exact ⟨fun z => absurd z (by omega), fun _ => ⟨_, rfl, by omega, by omega, by omega, by omega⟩⟩
    by_cases c1 : a.length ≤ j
    · rw [if_pos (by omega)]; exact fin156 (Or.inl c1)
    · rw [if_neg (by omega)]
      by_cases c2 : b.length ≤ j
      · rw [if_pos (by omega)]; exact fin156 (Or.inr c2)
      · rw [if_neg (by omega)]
        clear fin156
        obtain ⟨a1, a2, a3⟩ := ha (by intro z; rw [z] at c1; simp at c1)
        obtain ⟨b1, b2, b3⟩ := hb (by intro z; rw [z] at c2; simp at c2)
        have hx : a[j]? = some (a[j]'(by omega)) := List.getElem?_eq_getElem _
        have hy : b[j]? = some (b[j]'(by omega)) := List.getElem?_eq_getElem _
        have ea := a1 j _ hx; have eb := b1 j _ hy
        have va := (zq_wdB_iff _).mp (wa.1 _ (List.mem_of_getElem? hx))
        have vb := (zq_wdB_iff _).mp (wb.1 _ (List.mem_of_getElem? hy))
        have g1 : (0 : Int) ≤ p + j ∧ p + (j : Int) < 78128 := by omega
        have g2 : (0 : Int) ≤ q + j ∧ q + (j : Int) < 78128 := by omega
        simp only [if_pos g1, if_pos g2]
        rw [ea, eb, List.drop_eq_getElem_cons (show j < a.length by omega), List.drop_eq_getElem_cons (show j < b.length by omega)]
        have ih := zq_E_cr91 h k3 P v2 v3 v4 ha hb wa wb f (j + 1) (by omega) (by omega) (by omega)
        rw [show ((j + 1 : Nat) : Int) = (j : Int) + 1 by omega] at ih
        generalize a[j]'(by omega) = x at *
        generalize b[j]'(by omega) = y at *
        rw [zq_w32i (z := x) (by omega) (by omega), zq_w32i (z := y) (by omega) (by omega)]
        by_cases c3 : x = y
        · subst c3
          have e : zq_lexc (x :: a.drop (j + 1)) (x :: b.drop (j + 1)) = zq_lexc (a.drop (j + 1)) (b.drop (j + 1)) := by simp [zq_lexc]
          rw [if_pos rfl, e]; exact ih
        · rw [if_neg c3]
          have e : zq_lexc (x :: a.drop (j + 1)) (y :: b.drop (j + 1)) = if x < y then -1 else 1 := by
            simp only [zq_lexc]
            by_cases c4 : x < y
            · rw [if_pos c4, if_pos c4]
            · rw [if_neg c4, if_neg c4, if_neg c3]
          rw [e]
          refine ⟨fun z => ?_, fun _ => ⟨x - y, rfl, by omega, by omega, by omega, ?_⟩⟩
          · split at z <;> omega
          · split <;> omega
set_option maxRecDepth 100000 in
theorem zq_okB_x {lb : Nat → zq_LB} {N : Nat} {pts : List zq_P4} {fr wd : Int64} {W : Nat} {M : MS} (hc : zq_CX lb N pts fr wd W M) {i : Nat} (hi : i < N) (nm : List Int) : (∀ x ∈ zq_vOf (lb i) nm, zq_wdB x = true) ∧ (zq_vOf (lb i) nm).length ≤ 24 := zq_vOf_ok (hc.2.2.2.2 i hi).1 nm
set_option maxRecDepth 100000 in
theorem zq_E_cr3 {T : Int → Int} {n w : Int} {lb : Nat → zq_LB} {N : Nat} {pts : List zq_P4} {fr wd : Int64} {W : Nat} {P : Int} (hP : 0 ≤ P ∧ P < 20) {ns : List zq_NM} (ho : zq_okN n ns) {i j : Nat} (hi : i < N) (hj : j < N) : ∀ (k f : Nat) (M : MS), zq_MB T n w M → zq_CX lb N pts fr wd W M → zq_NX M P ns → k ≤ ns.length → ns.length - k < f → ∃ r vl, q_Mo_compareRows_3 f P i j k M = some (r, MS.w_m_valueLength M vl) ∧ -1000 ≤ r ∧ r ≤ 1000 ∧ (r < 0 ↔ zq_kcmp ((ns.drop k).map (fun x => zq_vOf (lb i) (zq_nmx T x))) ((ns.drop k).map (fun x => zq_vOf (lb j) (zq_nmx T x))) = -1) ∧ (r = 0 ↔ zq_kcmp ((ns.drop k).map (fun x => zq_vOf (lb i) (zq_nmx T x))) ((ns.drop k).map (fun x => zq_vOf (lb j) (zq_nmx T x))) = 0)
  | k, 0, M => by omega
  | k, f + 1, M => by
    intro h hc hx h1 hf
    have h6 := ho.2
    rw [q_Mo_compareRows_3, if_pos hP, hx.1, zq_w32i (z := (ns.length : Int)) (by omega) (by omega), zq_w32i (z := (k : Int)) (by omega) (by omega)]
    by_cases c1 : ns.length ≤ k
    · rw [if_pos (by omega), List.drop_eq_nil_of_le c1]
      exact ⟨0, M.m_valueLength, rfl, by omega, by omega, by simp [zq_kcmp], by simp [zq_kcmp]⟩
    · have hk : ns[k]? = some (ns[k]'(by omega)) := List.getElem?_eq_getElem _
      have en := hx.2 k _ hk
      have oy := ho.1 _ (List.mem_of_getElem? hk)
      rw [List.drop_eq_getElem_cons (show k < ns.length by omega), List.map_cons, List.map_cons]
      generalize ns[k]'(by omega) = y at *
      have hb : (0 : Int) ≤ 6 * P + k ∧ 6 * P + (k : Int) < 120 := by omega
      obtain ⟨p1, v1, v2⟩ := zq_r_valueOf h hc oy hi
      rw [if_neg (by omega), if_pos hb, if_pos hb, en.1, en.2, zq_mb2_eq v1, if_pos hb, if_pos hb]
      generalize hM1 : MS.w_m_valueLength M (zq_vOf (lb i) (zq_nmx T y)).length = M1
      have hB1 : zq_MB T n w M1 := by rw [← hM1]; exact h
      have hC1 : zq_CX lb N pts fr wd W M1 := by rw [← hM1]; exact zq_CX_KF hc rfl
      have n1 : M1.m_nameFroms (6 * P + k) = y.1 ∧ M1.m_nameLengths (6 * P + k) = y.2 := by rw [← hM1]; exact en
      obtain ⟨p2, u1, u2⟩ := zq_r_valueOf hB1 hC1 oy hj
      rw [n1.1, n1.2, zq_mb2_eq u1]
      generalize hM2 : MS.w_m_valueLength M1 (zq_vOf (lb j) (zq_nmx T y)).length = M2
      have hB2 : zq_MB T n w M2 := by rw [← hM2]; exact hB1
      have hC2 : zq_CX lb N pts fr wd W M2 := by rw [← hM2]; exact zq_CX_KF hC1 rfl
      have l1 : M1.m_valueLength = (zq_vOf (lb i) (zq_nmx T y)).length := by rw [← hM1]
      have l2 : M2.m_valueLength = (zq_vOf (lb j) (zq_nmx T y)).length := by rw [← hM2]
      have v2' : zq_VR M2 (zq_vOf (lb i) (zq_nmx T y)) p1 := by rw [← hM2, ← hM1]; exact v2
      have u2' : zq_VR M2 (zq_vOf (lb j) (zq_nmx T y)) p2 := by rw [← hM2]; exact u2
      have hx2 : zq_NX M2 P ns := by rw [← hM2, ← hM1]; exact hx
      have em : ∀ vl, MS.w_m_valueLength M2 vl = MS.w_m_valueLength M vl := fun vl => by rw [← hM2, ← hM1]
      rw [l1, l2]
      have res := zq_E_cr91 hB2 (q_Mo_compareRows_3 f) P (i : Int) (j : Int) (k : Int) v2' u2' (zq_okB_x hc hi _) (zq_okB_x hc hj _) fU 0 (by omega) (by omega) (zq_fU_gt (by have := (zq_okB_x hc hi (zq_nmx T y)).2; omega))
      rw [List.drop_zero, List.drop_zero, show ((0 : Nat) : Int) = 0 from rfl] at res
      rw [zq_kcmp]
      by_cases c2 : zq_lexc (zq_vOf (lb i) (zq_nmx T y)) (zq_vOf (lb j) (zq_nmx T y)) = 0
      · rw [res.1 c2, if_pos c2]
        obtain ⟨r, vl, i1, i2⟩ := zq_E_cr3 hP ho hi hj (k + 1) f M2 hB2 hC2 hx2 (by omega) (by omega)
        rw [show ((k + 1 : Nat) : Int) = (k : Int) + 1 by omega, em] at i1
        exact ⟨r, vl, i1, i2⟩
      · obtain ⟨r, r1, r2, r3, r4, r5⟩ := res.2 c2
        rw [r1, if_neg c2]
        refine ⟨r, M2.m_valueLength, ?_, r2, r3, r5, ⟨fun z => absurd z r4, fun z => absurd z c2⟩⟩
        rw [← em]
set_option maxRecDepth 100000 in
theorem zq_r_compareRows {T : Int → Int} {n w : Int} {lb : Nat → zq_LB} {N : Nat} {pts : List zq_P4} {fr wd : Int64} {W : Nat} {P : Int} (hP : 0 ≤ P ∧ P < 20) {ns : List zq_NM} (ho : zq_okN n ns) {i j : Nat} (hi : i < N) (hj : j < N) {M : MS} (h : zq_MB T n w M) (hc : zq_CX lb N pts fr wd W M) (hx : zq_NX M P ns) : ∃ r vl, s_Mo_compareRows M P i j = some (r, MS.w_m_valueLength M vl) ∧ -1000 ≤ r ∧ r ≤ 1000 ∧ (r < 0 ↔ zq_kcmp (zq_keyOf T lb ns i) (zq_keyOf T lb ns j) = -1) ∧ (r = 0 ↔ zq_keyOf T lb ns i = zq_keyOf T lb ns j) := by
  obtain ⟨r, vl, e1, e2, e3, e4, e5⟩ := zq_E_cr3 hP ho hi hj 0 fU M h hc hx (by omega) (zq_fU_gt (by have := ho.2; omega))
  rw [List.drop_zero] at e4 e5
  refine ⟨r, vl, e1, e2, e3, e4, ?_⟩
  rw [e5]
  exact zq_kcmp_0 _ _ (by simp)
set_option maxRecDepth 100000 in
/-- with no names nothing is looked at -/
theorem zq_r_compareRows0 {P : Int} (hP : 0 ≤ P ∧ P < 20) {M : MS} (hx : M.m_tableNames P = 0) (i j : Int) : s_Mo_compareRows M P i j = some (0, M) := by
  rw [s_Mo_compareRows, show fU = 999999 + 1 from rfl, q_Mo_compareRows_3, if_pos hP, hx, if_pos (by decide)]
set_option maxRecDepth 100000 in
def zq_gw (M : MS) (ro hb rs tr : Int → Int) (vl : Int) : MS := MS.w_m_valueLength (MS.w_m_tableRows (MS.w_m_rowSeries (MS.w_m_hasBefore (MS.w_m_rowOf M ro) hb) rs) tr) vl
set_option maxRecDepth 100000 in
theorem zq_gw_vl (M : MS) (ro hb rs tr : Int → Int) (vl vl' : Int) : MS.w_m_valueLength (zq_gw M ro hb rs tr vl) vl' = zq_gw M ro hb rs tr vl' := rfl
set_option maxRecDepth 100000 in
abbrev zq_klt (a b : zq_Key) : Prop := zq_kcmp a b = -1
section
variable {T : Int → Int} {n w : Int} {lb : Nat → zq_LB} {N : Nat} {pts : List zq_P4} {fr wd : Int64} {W : Nat}
set_option maxRecDepth 100000 in
/-- the rows so far -/
def zq_GI (T : Int → Int) (lb : Nat → zq_LB) (ns : List zq_NM) (ms : List zq_MT) (P : Int) (v : Nat) (ro hb rs tr : Int → Int) (ks : List zq_Key) : Prop :=
  (tr P = ks.length ∧ ks.length ≤ v) ∧ ks.Pairwise zq_klt ∧ (∀ k ∈ ks, k.length = ns.length) ∧ (∀ (r : Nat) (k : zq_Key), ks[r]? = some k → ∃ i : Nat, i < v ∧ rs (256 * P + r) = i ∧ zq_mAll T lb ms i = true ∧ zq_keyOf T lb ns i = k) ∧ (∀ i : Nat, i < v → hb i = 0 ∧ (zq_mAll T lb ms i = true → ∃ r : Nat, ro i = r ∧ ks[r]? = some (zq_keyOf T lb ns i)) ∧ (zq_mAll T lb ms i = false → ro i = -1))
set_option maxRecDepth 100000 in
theorem zq_E_g46 {M : MS} (h : zq_MB T n w M) (hc : zq_CX lb N pts fr wd W M) {P : Int} (hP : 0 ≤ P ∧ P < 20) {ns : List zq_NM} (hx : zq_NX M P ns) (ho : zq_okN n ns) (K : Int → Int → Int → MS → Option (Unit × MS)) (v2 : Int) {v : Nat} (hv : v < N) {ro hb rs tr : Int → Int} {ks : List zq_Key} (h1 : tr P = ks.length) (h2 : ks.length ≤ 256) (h3 : ∀ (r : Nat) (k : zq_Key), ks[r]? = some k → ∃ i : Nat, i < N ∧ rs (256 * P + r) = i ∧ zq_keyOf T lb ns i = k) : ∀ (f r : Nat) (vl : Int), r ≤ ks.length → ks.length - r < f → (∀ r' k, r' < r → ks[r']? = some k → zq_klt k (zq_keyOf T lb ns v)) → ∃ (r0 : Nat) (vl' : Int), r0 ≤ ks.length ∧ (∀ r' k, r' < r0 → ks[r']? = some k → zq_klt k (zq_keyOf T lb ns v)) ∧ (∀ k, ks[r0]? = some k → ¬ zq_klt k (zq_keyOf T lb ns v)) ∧ q_Mo_group_46 K f P v2 v r (zq_gw M ro hb rs tr vl) = q_Mo_group_85 K P v2 v r0 (zq_gw M ro hb rs tr vl')
  | 0, r, vl => by omega
  | f + 1, r, vl => by
    intro hr hf hlt
    have hN := hc.2.2.2.1.2
    have e1 : (zq_gw M ro hb rs tr vl).m_tableRows P = ks.length := h1
    rw [q_Mo_group_46, if_pos hP, e1, zq_w32i (z := (ks.length : Int)) (by omega) (by omega), zq_w32i (z := (r : Int)) (by omega) (by omega)]
    by_cases c1 : ks.length ≤ r
    · rw [if_pos (by omega)]
      refine ⟨r, vl, hr, hlt, fun k hk => ?_, rfl⟩
      rw [List.getElem?_eq_none c1] at hk; cases hk
    · have hk : ks[r]? = some (ks[r]'(by omega)) := List.getElem?_eq_getElem _
      obtain ⟨i, i1, i2, i3⟩ := h3 r _ hk
      rw [if_neg (by omega), if_pos ⟨by omega, by omega⟩]
      have e2 : (zq_gw M ro hb rs tr vl).m_rowSeries (256 * P + r) = i := i2
      obtain ⟨q, vl2, q1, q2, q3, q4, q5⟩ := zq_r_compareRows hP ho i1 hv (M := zq_gw M ro hb rs tr vl) h (zq_CX_KF hc rfl) hx
      rw [e2, zq_mb2_eq q1, zq_w32i (z := q) (by omega) (by omega), i3] at *
      rw [zq_gw_vl]
      by_cases c2 : 0 ≤ q
      · rw [if_pos c2]
        refine ⟨r, vl2, hr, hlt, fun k hk' => ?_, rfl⟩
        rw [hk] at hk'; cases hk'
        intro z
        have := q4.mpr z; omega
      · rw [if_neg c2]
        have ih := zq_E_g46 h hc hP hx ho K v2 hv (ro := ro) (hb := hb) (rs := rs) (tr := tr) h1 h2 h3 f (r + 1) vl2 (by omega) (by omega) (fun r' k hr' hk' => by
          by_cases z : r' = r
          · subst z; rw [hk] at hk'; cases hk'; exact q4.mp (by omega)
          · exact hlt r' k (by omega) hk')
        rw [show ((r + 1 : Nat) : Int) = (r : Int) + 1 by omega] at ih
        exact ih
set_option maxRecDepth 100000 in
theorem zq_E_g126 {M : MS} (K : Int → Int → Int → MS → Option (Unit × MS)) {P : Int} (hP : 0 ≤ P ∧ P < 20) (v2 v3 : Int) {r0 L : Int} (hr : 0 ≤ r0 ∧ r0 ≤ L ∧ L < 256) (ro hb rs tr : Int → Int) (vl : Int) : ∀ (m f : Nat) (q : Int), q = r0 + m → q ≤ L → m < f → q_Mo_group_126 K f P v2 v3 r0 q (zq_gw M ro hb (zq_shA rs (256 * P + q) (256 * P + L)) tr vl) = q_Mo_group_170 K fU P v2 v3 r0 0 (zq_gw M ro hb (zq_shA rs (256 * P + r0) (256 * P + L)) tr vl)
  | m, 0, q => by omega
  | 0, f + 1, q => by
    intro h1 h2 h3
    rw [show q = r0 by omega, q_Mo_group_126, if_pos (Int.le_refl _)]
  | m + 1, f + 1, q => by
    intro h1 h2 h3
    rw [q_Mo_group_126, zq_w32i (z := q) (by omega) (by omega), zq_w32i (z := r0) (by omega) (by omega), if_neg (by omega), if_pos ⟨by omega, by omega⟩, if_pos ⟨by omega, by omega⟩]
    have e : aU (zq_shA rs (256 * P + q) (256 * P + L)) (256 * P + q) (zq_shA rs (256 * P + q) (256 * P + L) (256 * P + q - 1)) = zq_shA rs (256 * P + q - 1) (256 * P + L) := zq_sh_step rs _ _ (by omega)
    have ih := zq_E_g126 (M := M) K hP v2 v3 hr ro hb rs tr vl m f (q + (-1)) (by omega) (by omega) (by omega)
    rw [show 256 * P + (q + (-1)) = 256 * P + q - 1 by omega, ← e] at ih
    exact ih
set_option maxRecDepth 100000 in
def zq_bump (ro : Int → Int) (v r0 : Int) : Int → Int := fun i => if 0 ≤ i ∧ i < v then (if ro i < r0 then ro i else ro i + 1) else ro i
set_option maxRecDepth 100000 in
theorem zq_E_g170 {M : MS} (K : Int → Int → Int → MS → Option (Unit × MS)) {P : Int} (hP : 0 ≤ P ∧ P < 20) (v2 : Int) {v : Nat} (hv : v < 256) {r0 : Int} (hr : 0 ≤ r0 ∧ r0 < 256) (ro hb rs tr : Int → Int) (vl : Int) (hro : ∀ i : Nat, i < v → -1 ≤ ro i ∧ ro i ≤ 256) : ∀ (m f : Nat) (q : Nat), q + m = v → m < f → q_Mo_group_170 K f P v2 v r0 q (zq_gw M (zq_bump ro q r0) hb rs tr vl) = K P v2 (v + 1) (zq_gw M (aU (zq_bump ro v r0) v r0) hb (aU rs (256 * P + r0) v) (aU tr P (tr P + 1)) vl)
  | m, 0, q => by omega
  | 0, f + 1, q => by
    intro h1 h3
    have hq : q = v := by omega
    subst hq
    rw [q_Mo_group_170, if_pos (Int.le_refl _), if_pos ⟨by omega, by omega⟩, if_pos hP, if_pos hP, q_Mo_group_244, if_pos ⟨by omega, by omega⟩, q_Mo_group_252]; rfl
  | m + 1, f + 1, q => by
    intro h1 h3
    have hb' := hro q (by omega)
    have e0 : (zq_gw M (zq_bump ro q r0) hb rs tr vl).m_rowOf q = ro q := by
      show zq_bump ro q r0 q = ro q
      unfold zq_bump; rw [if_neg (by omega)]
    rw [q_Mo_group_170, zq_w32i (z := (v : Int)) (by omega) (by omega), zq_w32i (z := (q : Int)) (by omega) (by omega), if_neg (by omega), if_pos ⟨by omega, by omega⟩, e0, zq_w32i (z := ro q) (by omega) (by omega), zq_w32i (z := r0) (by omega) (by omega)]
    have st : ∀ z, (z = if ro q < r0 then ro q else ro q + 1) → q_Mo_group_213 K (q_Mo_group_170 K f) P v2 v r0 q z q (zq_gw M (zq_bump ro q r0) hb rs tr vl) = q_Mo_group_170 K f P v2 v r0 ((q + 1 : Nat) : Int) (zq_gw M (zq_bump ro ((q + 1 : Nat) : Int) r0) hb rs tr vl) := by
      intro z hz
      rw [q_Mo_group_213, if_pos ⟨by omega, by omega⟩, show ((q + 1 : Nat) : Int) = (q : Int) + 1 by omega]
      have eb : aU (zq_bump ro q r0) q z = zq_bump ro ((q : Int) + 1) r0 := by
        funext j; unfold aU
        by_cases c : j = q
        · rw [if_pos c, c, hz]; unfold zq_bump; rw [if_pos (show (0 : Int) ≤ (q : Int) ∧ (q : Int) < (q : Int) + 1 by omega)]
        · rw [if_neg c]; unfold zq_bump
          by_cases c2 : 0 ≤ j ∧ j < (q : Int)
          · rw [if_pos c2, if_pos (show 0 ≤ j ∧ j < (q : Int) + 1 by omega)]
          · rw [if_neg c2, if_neg (show ¬ (0 ≤ j ∧ j < (q : Int) + 1) by omega)]
      rw [← eb]; rfl
    have ih := zq_E_g170 (M := M) K hP v2 hv hr ro hb rs tr vl hro m f (q + 1) (by omega) (by omega)
    by_cases c2 : ro q < r0
    · rw [if_pos c2, if_pos ⟨by omega, by omega⟩, st _ (by rw [if_pos c2]), ih]
    · rw [if_neg c2, if_pos ⟨by omega, by omega⟩, st _ (by rw [if_neg c2]), ih]
set_option maxRecDepth 100000 in
theorem zq_klt_ins {ks : List zq_Key} {k : zq_Key} {r0 m : Nat} (hs : ks.Pairwise zq_klt) (hl : ∀ x ∈ ks, x.length = m) (hk : k.length = m) (h1 : ∀ r' x, r' < r0 → ks[r']? = some x → zq_klt x k) (h2 : ∀ x, ks[r0]? = some x → zq_klt k x) (hr : r0 ≤ ks.length) : (ks.take r0 ++ k :: ks.drop r0).Pairwise zq_klt := by
  have hs' := hs
  rw [← List.take_append_drop r0 ks, List.pairwise_append] at hs'
  obtain ⟨a1, a2, a3⟩ := hs'
  rw [List.pairwise_append]
  have hd : ∀ x ∈ ks.drop r0, zq_klt k x := by
    intro x hx
    cases hdd : ks.drop r0 with
    | nil => rw [hdd] at hx; cases hx
    | cons y t =>
      have hy : ks[r0]? = some y := by
        have : (ks.drop r0)[0]? = some y := by rw [hdd]; rfl
        rw [List.getElem?_drop] at this; simpa using this
      have q := h2 y hy
      rw [hdd] at hx a2
      rcases List.mem_cons.mp hx with rfl | hx
      · exact q
      · rw [List.pairwise_cons] at a2
        have hym : y ∈ ks := List.mem_of_getElem? hy
        have hxm : x ∈ ks := List.mem_of_mem_drop (by rw [hdd]; exact List.mem_cons_of_mem _ hx)
        exact zq_kcmp_tr k y x (by rw [hk, hl y hym]) (by rw [hl y hym, hl x hxm]) q (a2.1 x hx)
  refine ⟨a1, ?_, fun x hx y hy => ?_⟩
  · rw [List.pairwise_cons]; exact ⟨hd, a2⟩
  · rcases List.mem_cons.mp hy with rfl | hy
    · obtain ⟨r', hr', e⟩ := List.mem_iff_getElem.mp hx
      rw [List.getElem_take] at e
      simp at hr'
      exact h1 r' x (by omega) (by rw [← e]; exact List.getElem?_eq_getElem _)
    · exact a3 x hx y hy
set_option maxRecDepth 100000 in
/-- one series comes to the rows -/
theorem zq_r_gstep {M : MS} (h : zq_MB T n w M) (hc : zq_CX lb N pts fr wd W M) {P : Int} (hP : 0 ≤ P ∧ P < 20) {ns : List zq_NM} (hx : zq_NX M P ns) (ho : zq_okN n ns) {kd q0 : Int} {ms : List zq_MT} (hF : zq_OkF T n kd q0 ns ms) (K : Int → Int → Int → MS → Option (Unit × MS)) {v : Nat} (hv : v < N) {ro hb rs tr : Int → Int} {ks : List zq_Key} {vl : Int} (hg : zq_GI T lb ns ms P v ro hb rs tr ks) :
    ∃ ro' hb' rs' tr' ks' vl', mb2 (s_Mo_matches (MS.w_m_hasBefore (MS.w_m_rowOf (zq_gw M ro hb rs tr vl) (aU ro v (-1))) (aU hb v 0)) v q0) (fun r40 S40 => if w32 r40 = 0 then q_Mo_group_252 K P q0 v S40 else q_Mo_group_46 K fU P q0 v 0 S40) = K P q0 (v + 1) (zq_gw M ro' hb' rs' tr' vl') ∧ zq_GI T lb ns ms P (v + 1) ro' hb' rs' tr' ks' ∧ (∀ j, j ≠ P → tr' j = tr j) ∧ (∀ j, (j < 256 * P ∨ 256 * P + 256 ≤ j) → rs' j = rs j) := by
  have hN := hc.2.2.2.1.2
  obtain ⟨⟨g1, g2⟩, g3, g4, g5, g6⟩ := hg
  have e0 : MS.w_m_hasBefore (MS.w_m_rowOf (zq_gw M ro hb rs tr vl) (aU ro v (-1))) (aU hb v 0) = zq_gw M (aU ro v (-1)) (aU hb v 0) rs tr vl := rfl
  rw [e0]
  obtain ⟨vl1, m1⟩ := zq_r_matches (M := zq_gw M (aU ro v (-1)) (aU hb v 0) rs tr vl) h (zq_CX_KF hc rfl) hv hF
  rw [zq_mb2_eq m1, zq_gw_vl]
  by_cases c1 : zq_mAll T lb ms v = true
  · rw [if_neg (by rw [zq_b01_0]; simp [c1])]
    obtain ⟨r0, vl2, s1, s2, s3, s4⟩ := zq_E_g46 h hc hP hx ho K q0 hv (ro := aU ro v (-1)) (hb := aU hb v 0) (rs := rs) (tr := tr) g1 (by omega) (fun r k hk => by obtain ⟨i, i1, i2, i3, i4⟩ := g5 r k hk; exact ⟨i, by omega, i2, i4⟩) fU 0 vl1 (by omega) (zq_fU_gt (by omega)) (fun r' k hr => by omega)
    rw [show ((0 : Nat) : Int) = 0 from rfl] at s4
    rw [s4, q_Mo_group_85, if_pos hP]
    have e1 : (zq_gw M (aU ro v (-1)) (aU hb v 0) rs tr vl2).m_tableRows P = ks.length := g1
    rw [e1, zq_w32i (z := (r0 : Int)) (by omega) (by omega), zq_w32i (z := (ks.length : Int)) (by omega) (by omega)]
    have hbs : ∀ i : Nat, i < v + 1 → aU hb v 0 i = 0 := by
      intro i hi
      by_cases z : i = v
      · subst z; rw [zq_aU_at]
      · rw [zq_aU_ne _ _ _ _ (by omega)]; exact (g6 i (by omega)).1
    have insert : ∀ vl3, (∀ k, ks[r0]? = some k → zq_klt (zq_keyOf T lb ns v) k) → ∃ ro' hb' rs' tr' ks' vl', q_Mo_group_118 K P q0 v r0 (zq_gw M (aU ro v (-1)) (aU hb v 0) rs tr vl3) = K P q0 (v + 1) (zq_gw M ro' hb' rs' tr' vl') ∧ zq_GI T lb ns ms P (v + 1) ro' hb' rs' tr' ks' ∧ (∀ j, j ≠ P → tr' j = tr j) ∧ (∀ j, (j < 256 * P ∨ 256 * P + 256 ≤ j) → rs' j = rs j) := by
      intro vl3 hgt
      have rb : ∀ i : Nat, i < v → -1 ≤ aU ro v (-1) i ∧ aU ro v (-1) i ≤ 256 := by
        intro i hi
        rw [zq_aU_ne _ _ _ _ (by omega)]
        cases hm : zq_mAll T lb ms i with
        | true =>
          obtain ⟨r, r1, r2⟩ := (g6 i hi).2.1 hm
          have : r < ks.length := (List.getElem?_eq_some_iff.mp r2).1
          omega
        | false => have := (g6 i hi).2.2 hm; omega
      have t1 := zq_E_g126 (M := M) K hP q0 v (r0 := r0) (L := ks.length) (by omega) (aU ro v (-1)) (aU hb v 0) rs tr vl3 (ks.length - r0) fU ks.length (by omega) (Int.le_refl _) (zq_fU_gt (by omega))
      rw [zq_sh_0] at t1
      have t2 := zq_E_g170 (M := M) K hP q0 (v := v) (by omega) (r0 := r0) (by omega) (aU ro v (-1)) (aU hb v 0) (zq_shA rs (256 * P + r0) (256 * P + ks.length)) tr vl3 rb v fU 0 (by omega) (zq_fU_gt (by omega))
      have bz : zq_bump (aU ro v (-1)) ((0 : Nat) : Int) r0 = aU ro v (-1) := by funext j; unfold zq_bump; rw [if_neg (by omega)]
      rw [bz, show ((0 : Nat) : Int) = 0 from rfl] at t2
      have ein : aU (zq_shA rs (256 * P + r0) (256 * P + ks.length)) (256 * P + r0) v = zq_inA rs (256 * P + r0) (256 * P + ks.length) v := zq_sh_end _ _ _ _
      rw [ein] at t2
      refine ⟨aU (zq_bump (aU ro v (-1)) v r0) v r0, aU hb v 0, zq_inA rs (256 * P + r0) (256 * P + ks.length) v, aU tr P (tr P + 1), ks.take r0 ++ zq_keyOf T lb ns v :: ks.drop r0, vl3, ?_, ⟨⟨?_, ?_⟩, ?_, ?_, fun r k hk => ?_, fun i hi => ?_⟩, fun j hj => zq_aU_ne _ _ _ _ hj, fun j hj => ?_⟩
      · rw [q_Mo_group_118, if_pos hP]
        show q_Mo_group_126 K fU P q0 v r0 (tr P) (zq_gw M (aU ro v (-1)) (aU hb v 0) rs tr vl3) = _
        exact (congrArg (fun z => q_Mo_group_126 K fU P q0 v r0 z (zq_gw M (aU ro v (-1)) (aU hb v 0) rs tr vl3)) g1).trans (t1.trans t2)
      · rw [zq_aU_at, g1]; simp; omega
      · simp; omega
      · exact zq_klt_ins g3 g4 (by unfold zq_keyOf; simp) s2 hgt s1
      · intro k hk
        rcases List.mem_append.mp hk with z | z
        · exact g4 k (List.mem_of_mem_take z)
        · rcases List.mem_cons.mp z with rfl | z
          · unfold zq_keyOf; simp
          · exact g4 k (List.mem_of_mem_drop z)
      · have htl : (ks.take r0).length = r0 := by simp; omega
        by_cases z1 : r < r0
        · rw [List.getElem?_append_left (by omega), List.getElem?_take_of_lt z1] at hk
          obtain ⟨i, i1, i2, i3, i4⟩ := g5 r k hk
          refine ⟨i, by omega, ?_, i3, i4⟩
          unfold zq_inA; rw [if_neg (by omega), if_neg (by omega)]; exact i2
        · rw [List.getElem?_append_right (by omega), htl] at hk
          by_cases z2 : r = r0
          · subst z2
            rw [Nat.sub_self] at hk; simp at hk
            refine ⟨v, by omega, ?_, c1, hk⟩
            unfold zq_inA; rw [if_pos rfl]
          · rw [show r - r0 = (r - r0 - 1) + 1 by omega, List.getElem?_cons_succ, List.getElem?_drop, show r0 + (r - r0 - 1) = r - 1 by omega] at hk
            have hr1 : r - 1 < ks.length := (List.getElem?_eq_some_iff.mp hk).1
            obtain ⟨i, i1, i2, i3, i4⟩ := g5 (r - 1) k hk
            refine ⟨i, by omega, ?_, i3, i4⟩
            unfold zq_inA; rw [if_neg (by omega), if_pos (by omega), show 256 * P + (r : Int) - 1 = 256 * P + ((r - 1 : Nat) : Int) by omega]; exact i2
      · refine ⟨hbs i hi, fun hm => ?_, fun hm => ?_⟩
        · by_cases z : i = v
          · subst z
            refine ⟨r0, by rw [zq_aU_at], ?_⟩
            have htl : (ks.take r0).length = r0 := by simp; omega
            rw [List.getElem?_append_right (by omega), htl, Nat.sub_self]; rfl
          · obtain ⟨r, r1, r2⟩ := (g6 i (by omega)).2.1 hm
            have hrl : r < ks.length := (List.getElem?_eq_some_iff.mp r2).1
            have htl : (ks.take r0).length = r0 := by simp; omega
            rw [zq_aU_ne _ _ _ _ (by omega)]
            unfold zq_bump
            rw [if_pos (by omega), zq_aU_ne _ _ _ _ (by omega), r1]
            by_cases z1 : r < r0
            · rw [if_pos (by omega)]
              exact ⟨r, rfl, by rw [List.getElem?_append_left (by omega), List.getElem?_take_of_lt z1]; exact r2⟩
            · rw [if_neg (by omega)]
              refine ⟨r + 1, by omega, ?_⟩
              rw [List.getElem?_append_right (by omega), htl, show r + 1 - r0 = (r - r0) + 1 by omega, List.getElem?_cons_succ, List.getElem?_drop, show r0 + (r - r0) = r by omega]
              exact r2
        · have z : i ≠ v := fun z => by rw [z, c1] at hm; cases hm
          rw [zq_aU_ne _ _ _ _ (by omega)]
          have := (g6 i (by omega)).2.2 hm
          unfold zq_bump
          rw [if_pos (by omega), zq_aU_ne _ _ _ _ (by omega), this, if_pos (by omega)]
      · unfold zq_inA; rw [if_neg (by omega), if_neg (by omega)]
    by_cases c2 : (r0 : Int) = ks.length
    · rw [if_pos c2]
      exact insert vl2 (fun k hk => by rw [List.getElem?_eq_none (by omega)] at hk; cases hk)
    · rw [if_neg c2, if_pos ⟨by omega, by omega⟩]
      have hk0 : ks[r0]? = some (ks[r0]'(by omega)) := List.getElem?_eq_getElem _
      obtain ⟨i, i1, i2, i3, i4⟩ := g5 r0 _ hk0
      have e2 : (zq_gw M (aU ro v (-1)) (aU hb v 0) rs tr vl2).m_rowSeries (256 * P + r0) = i := i2
      obtain ⟨q, vl3, q1, q2, q3, q4, q5⟩ := zq_r_compareRows hP ho (i := i) (by omega) hv (M := zq_gw M (aU ro v (-1)) (aU hb v 0) rs tr vl2) h (zq_CX_KF hc rfl) hx
      rw [e2, zq_mb2_eq q1, zq_gw_vl, zq_w32i (z := q) (by omega) (by omega)]
      have ng := s3 _ hk0
      rw [← i4] at ng
      have hq0 : ¬ q < 0 := fun z => ng (q4.mp z)
      by_cases c3 : q ≤ 0
      · rw [if_pos c3]
        have hke : zq_keyOf T lb ns i = zq_keyOf T lb ns v := q5.mp (by omega)
        refine ⟨aU (aU ro v (-1)) v r0, aU hb v 0, rs, tr, ks, vl3, ?_, ⟨⟨g1, by omega⟩, g3, g4, fun r k hk => ?_, fun i' hi' => ⟨hbs i' hi', fun hm => ?_, fun hm => ?_⟩⟩, fun j _ => rfl, fun j _ => rfl⟩
        · rw [q_Mo_group_244, if_pos ⟨by omega, by omega⟩, q_Mo_group_252]; rfl
        · obtain ⟨i', a, b, c, d⟩ := g5 r k hk
          exact ⟨i', by omega, b, c, d⟩
        · by_cases z : i' = v
          · subst z; exact ⟨r0, by rw [zq_aU_at], by rw [hk0, ← hke, i4]⟩
          · rw [zq_aU_ne _ _ _ _ (by omega), zq_aU_ne _ _ _ _ (by omega)]; exact (g6 i' (by omega)).2.1 hm
        · have z : i' ≠ v := fun z => by rw [z, c1] at hm; cases hm
          rw [zq_aU_ne _ _ _ _ (by omega), zq_aU_ne _ _ _ _ (by omega)]; exact (g6 i' (by omega)).2.2 hm
      · rw [if_neg c3]
        refine insert vl3 (fun k hk => ?_)
        rw [hk0] at hk; cases hk
        rw [← i4]
        have R := zq_kcmp_R (zq_keyOf T lb ns i) (zq_keyOf T lb ns v)
        have S := zq_kcmp_sym (zq_keyOf T lb ns v) (zq_keyOf T lb ns i)
        have z0 : zq_kcmp (zq_keyOf T lb ns i) (zq_keyOf T lb ns v) ≠ 0 := fun z => by
          have := q5.mpr ((zq_kcmp_0 _ _ (by unfold zq_keyOf; simp)).mp z); omega
        show zq_kcmp _ _ = -1
        have ng' : ¬ zq_kcmp (zq_keyOf T lb ns i) (zq_keyOf T lb ns v) = -1 := ng
        omega
  · have c1' : zq_mAll T lb ms v = false := by
      cases hm : zq_mAll T lb ms v with
      | true => exact absurd hm c1
      | false => rfl
    rw [if_pos (by rw [zq_b01_0]; exact c1)]
    refine ⟨aU ro v (-1), aU hb v 0, rs, tr, ks, vl1, rfl, ⟨⟨g1, by omega⟩, g3, g4, fun r k hk => ?_, fun i hi => ?_⟩, fun j _ => rfl, fun j _ => rfl⟩
    · obtain ⟨i', a, b, c, d⟩ := g5 r k hk
      exact ⟨i', by omega, b, c, d⟩
    · by_cases z : i = v
      · subst z; rw [zq_aU_at, zq_aU_at]; exact ⟨rfl, fun hm => absurd hm c1, fun _ => rfl⟩
      · rw [zq_aU_ne _ _ _ _ (by omega), zq_aU_ne _ _ _ _ (by omega)]; exact g6 i (by omega)
end
set_option maxRecDepth 100000 in
def zq_cw2 (M : MS) (ic : Int → Int) (ce : Int → Int64) : MS := MS.w_m_cells (MS.w_m_isCell M ic) ce
section
variable {T : Int → Int} {n w : Int} {lb : Nat → zq_LB} {N : Nat} {pts : List zq_P4} {fr wd : Int64} {W : Nat}
set_option maxRecDepth 100000 in
theorem zq_E_g9 {M : MS} (h : zq_MB T n w M) (hc : zq_CX lb N pts fr wd W M) {P : Int} (hP : 0 ≤ P ∧ P < 20) {ns : List zq_NM} (hx : zq_NX M P ns) (ho : zq_okN n ns) {kd q0 : Int} {ms : List zq_MT} (hF : zq_OkF T n kd q0 ns ms) : ∀ (m f v : Nat) (ro hb rs tr : Int → Int) (ks : List zq_Key) (vl : Int), v + m = N → m < f → zq_GI T lb ns ms P v ro hb rs tr ks → ∃ ro' hb' rs' tr' ks' vl', q_Mo_group_9 f P q0 v (zq_gw M ro hb rs tr vl) = q_Mo_group_260 fU P 0 (zq_gw M ro' hb' rs' tr' vl') ∧ zq_GI T lb ns ms P N ro' hb' rs' tr' ks' ∧ (∀ j, j ≠ P → tr' j = tr j) ∧ (∀ j, (j < 256 * P ∨ 256 * P + 256 ≤ j) → rs' j = rs j)
  | m, 0, v, ro, hb, rs, tr, ks, vl => by omega
  | m, f + 1, v, ro, hb, rs, tr, ks, vl => by
    intro hm hf hg
    have hN := hc.2.2.2.1.2
    have e1 : (zq_gw M ro hb rs tr vl).m_seriesCount = N := hc.2.2.2.1.1
    rw [q_Mo_group_9, e1, zq_w32i (z := (N : Int)) (by omega) (by omega), zq_w32i (z := (v : Int)) (by omega) (by omega)]
    cases m with
    | zero =>
      have hv : v = N := by omega
      subst hv
      rw [if_pos (Int.le_refl _)]
      exact ⟨ro, hb, rs, tr, ks, vl, rfl, hg, fun _ _ => rfl, fun _ _ => rfl⟩
    | succ m =>
      rw [if_neg (by omega), if_pos ⟨by omega, by omega⟩, if_pos ⟨by omega, by omega⟩]
      obtain ⟨ro1, hb1, rs1, tr1, ks1, vl1, s1, s2, s3, s4⟩ := zq_r_gstep h hc hP hx ho hF (q_Mo_group_9 f) (v := v) (by omega) (vl := vl) hg
      obtain ⟨ro2, hb2, rs2, tr2, ks2, vl2, t1, t2, t3, t4⟩ := zq_E_g9 h hc hP hx ho hF m f (v + 1) ro1 hb1 rs1 tr1 ks1 vl1 (by omega) (by omega) s2
      rw [show ((v + 1 : Nat) : Int) = (v : Int) + 1 by omega] at t1
      exact ⟨ro2, hb2, rs2, tr2, ks2, vl2, s1.trans t1, t2, fun j hj => (t3 j hj).trans (s3 j hj), fun j hj => (t4 j hj).trans (s4 j hj)⟩
set_option maxRecDepth 100000 in
theorem zq_E_g260 {P : Int} (hP : 0 ≤ P ∧ P < 20) {M : MS} {L : Nat} (hL : M.m_tableRows P * M.m_windows = L) (hs : 0 ≤ M.m_starts P ∧ M.m_starts P + L ≤ 327680) : ∀ (m f v : Nat) (ic : Int → Int) (ce : Int → Int64), v + m = L → m < f → ∃ ic' ce', q_Mo_group_260 f P v (zq_cw2 M ic ce) = some ((), zq_cw2 M ic' ce') ∧ (∀ j, M.m_starts P + v ≤ j → j < M.m_starts P + L → ic' j = 0 ∧ ce' j = ll 0) ∧ (∀ j, (j < M.m_starts P + v ∨ M.m_starts P + L ≤ j) → ic' j = ic j ∧ ce' j = ce j)
  | m, 0, v, ic, ce => by omega
  | m, f + 1, v, ic, ce => by
    intro hm hf
    have e1 : (zq_cw2 M ic ce).m_tableRows P * (zq_cw2 M ic ce).m_windows = L := hL
    have e2 : (zq_cw2 M ic ce).m_starts P = M.m_starts P := rfl
    rw [q_Mo_group_260, if_pos hP, e1, zq_w32i (z := (L : Int)) (by omega) (by omega), zq_w32i (z := (v : Int)) (by omega) (by omega)]
    cases m with
    | zero =>
      rw [if_pos (by omega)]
      exact ⟨ic, ce, rfl, fun j h1 h2 => by omega, fun j _ => ⟨rfl, rfl⟩⟩
    | succ m =>
      have g1 : (0 : Int) ≤ P ∧ P < 21 := by omega
      have g2 : (0 : Int) ≤ M.m_starts P + v ∧ M.m_starts P + (v : Int) < 327680 := by omega
      rw [if_neg (by omega), if_pos g1, e2, if_pos g2, if_pos g1, if_pos g2]
      obtain ⟨ic', ce', a1, a2, a3⟩ := zq_E_g260 hP hL hs m f (v + 1) (aU ic (M.m_starts P + v) 0) (aU ce (M.m_starts P + v) (ll 0)) (by omega) (by omega)
      rw [show ((v + 1 : Nat) : Int) = (v : Int) + 1 by omega] at a1 a2 a3
      refine ⟨ic', ce', a1, fun j h1 h2 => ?_, fun j hj => ?_⟩
      · by_cases z : j = M.m_starts P + v
        · have := a3 j (by omega)
          rw [this.1, this.2, z, zq_aU_at, zq_aU_at]; exact ⟨rfl, rfl⟩
        · exact a2 j (by omega) h2
      · have := a3 j (by omega)
        rw [this.1, this.2, zq_aU_ne _ _ _ _ (by omega), zq_aU_ne _ _ _ _ (by omega)]; exact ⟨rfl, rfl⟩
set_option maxRecDepth 100000 in
/-- what a cell of the reference holds -/
def zq_CR (M : MS) (kd j v7 : Int) (s : zq_CS) : Prop := match s with
  | none => M.m_isCell j = 0 ∧ M.m_cells j = ll 0
  | some y => M.m_isCell j = 1 ∧ M.m_cells j = y.1 ∧ (kd = 5 ∨ kd = 6 → (M.m_keyTimes v7).toInt = y.2.1 ∧ M.m_keySeries v7 = y.2.2)
set_option maxRecDepth 100000 in
def zq_gz (M : MS) (ic : Int → Int) (ce kt : Int → Int64) (ks : Int → Int) : MS := MS.w_m_keySeries (MS.w_m_keyTimes (zq_cw2 M ic ce) kt) ks
set_option maxRecDepth 100000 in
theorem zq_r_gather {M : MS} {P kd : Int} (hP : 0 ≤ P ∧ P < 20) (hk : 1 ≤ kd ∧ kd ≤ 7) {v r v5 j : Int} (hv : 0 ≤ v ∧ v < 8192) (hr : 0 ≤ r ∧ r < 256) (h5 : 0 ≤ v5 ∧ v5 < 64) (hj : M.m_starts P + r * M.m_windows + v5 = j) (hj2 : 0 ≤ j ∧ j < 327680) {s : Int} (hs : M.m_pointSeries v = s ∧ 0 ≤ s ∧ s < 256) {cs : zq_CS} (hc : zq_CR M kd j (r * 64 + v5) cs) (hks : (kd = 5 ∨ kd = 6) → ∀ y, cs = some y → 0 ≤ y.2.2 ∧ y.2.2 < 256) {b : Option Int64} (hb : (M.m_hasBefore s = 0 ∧ b = none) ∨ (M.m_hasBefore s = 1 ∧ b = some (M.m_befores s))) :
    ∃ ic ce kt ks, s_Mo_gather M P (kd - 1) v r v5 = some ((), zq_gz M ic ce kt ks) ∧ zq_CR (zq_gz M ic ce kt ks) kd j (r * 64 + v5) (zq_cst kd cs (s, M.m_pointTimes v, M.m_pointValues v, b)) ∧ (∀ i, i ≠ j → ic i = M.m_isCell i ∧ ce i = M.m_cells i) ∧ (∀ i, i ≠ r * 64 + v5 → kt i = M.m_keyTimes i ∧ ks i = M.m_keySeries i) := by
  have ev7 : r * 64 + v5 = r * 64 + v5 := rfl
  have g7 : (0 : Int) ≤ r * 64 + v5 ∧ r * 64 + v5 < 16384 := by omega
  generalize hv7 : r * 64 + v5 = v7 at *
  have gj : (0 : Int) ≤ j ∧ j < 327680 := hj2
  have e85 : s_Mo_cellAt M P r v5 = some (j, M) := by rw [s_Mo_cellAt, if_pos ⟨by omega, by omega⟩, hj]
  generalize ht : M.m_pointTimes v = t at *
  generalize hvv : M.m_pointValues v = x at *
  have hic : M.m_isCell j = 0 ∨ M.m_isCell j = 1 := by cases cs with
    | none => exact Or.inl hc.1
    | some y => exact Or.inr hc.1
  -- the two questions about order
  have hks2 : (kd = 5 ∨ kd = 6) → M.m_isCell j = 1 → 0 ≤ M.m_keySeries v7 ∧ M.m_keySeries v7 < 256 := by
    intro z z1
    cases cs with
    | none => have := hc.1; omega
    | some y =>
      have := (hc.2.2 z).2
      have := hks z y rfl
      omega
  have flag : ∃ fl : Int, s_Mo_gather M P (kd - 1) v r v5 = q_Mo_gather_166 (kd - 1) j v7 s x t (M.m_isCell j) fl M ∧ (kd = 5 → fl = zq_b01 (M.m_isCell j = 0 ∨ t.toInt < (M.m_keyTimes v7).toInt ∨ (t.toInt = (M.m_keyTimes v7).toInt ∧ s < M.m_keySeries v7))) ∧ (kd = 6 → fl = zq_b01 (M.m_isCell j = 0 ∨ (M.m_keyTimes v7).toInt < t.toInt ∨ (t.toInt = (M.m_keyTimes v7).toInt ∧ s < M.m_keySeries v7))) := by
    -- the second question
    have snd : ∀ f1 : Int, ∃ f2 : Int, q_Mo_gather_102 (kd - 1) j v7 s x t (M.m_isCell j) f1 M = q_Mo_gather_152 (kd - 1) j v7 s x t (M.m_isCell j) f1 f2 M ∧ (kd = 6 → f2 = zq_b01 (M.m_isCell j = 0 ∨ (M.m_keyTimes v7).toInt < t.toInt ∨ (t.toInt = (M.m_keyTimes v7).toInt ∧ s < M.m_keySeries v7))) := by
      intro f1
      rw [q_Mo_gather_102, zq_w32i (z := M.m_isCell j) (by omega) (by omega), if_pos g7, if_pos g7]
      by_cases c1 : M.m_isCell j = 0
      · rw [if_pos c1, q_Mo_gather_147]; exact ⟨1, rfl, fun _ => (zq_b01_t (Or.inl c1)).symm⟩
      · rw [if_neg c1]
        by_cases c2 : (M.m_keyTimes v7).toInt < t.toInt
        · rw [if_pos c2, q_Mo_gather_147]; exact ⟨1, rfl, fun _ => (zq_b01_t (Or.inr (Or.inl c2))).symm⟩
        · rw [if_neg c2]
          by_cases c3 : t.toInt = (M.m_keyTimes v7).toInt
          · rw [if_pos c3, if_pos g7]
            by_cases c4 : w32 (M.m_keySeries v7) ≤ w32 s
            · rw [if_pos c4, q_Mo_gather_151]
              refine ⟨0, rfl, fun z => (zq_b01_f ?_).symm⟩
              have := hks2 (Or.inr z) (by omega)
              rw [zq_w32i (z := M.m_keySeries v7) (by omega) (by omega), zq_w32i (z := s) (by omega) (by omega)] at c4
              rintro (q | q | q)
              · exact c1 q
              · exact c2 q
              · omega
            · rw [if_neg c4, q_Mo_gather_147]
              refine ⟨1, rfl, fun z => (zq_b01_t ?_).symm⟩
              have := hks2 (Or.inr z) (by omega)
              rw [zq_w32i (z := M.m_keySeries v7) (by omega) (by omega), zq_w32i (z := s) (by omega) (by omega)] at c4
              exact Or.inr (Or.inr ⟨c3, by omega⟩)
          · rw [if_neg c3, q_Mo_gather_151]
            refine ⟨0, rfl, fun z => (zq_b01_f ?_).symm⟩
            rintro (q | q | q)
            · exact c1 q
            · exact c2 q
            · exact c3 q.1
    have fst : ∃ f1 : Int, s_Mo_gather M P (kd - 1) v r v5 = q_Mo_gather_102 (kd - 1) j v7 s x t (M.m_isCell j) f1 M ∧ (kd = 5 → f1 = zq_b01 (M.m_isCell j = 0 ∨ t.toInt < (M.m_keyTimes v7).toInt ∨ (t.toInt = (M.m_keyTimes v7).toInt ∧ s < M.m_keySeries v7))) := by
      rw [s_Mo_gather, zq_mb2_eq e85]
      simp only [if_pos hv, if_pos gj]
      rw [hv7, hs.1, ht, hvv, zq_w32i (z := M.m_isCell j) (by omega) (by omega)]
      simp only [if_pos g7]
      by_cases c1 : M.m_isCell j = 0
      · rw [if_pos c1, q_Mo_gather_97]; exact ⟨1, rfl, fun _ => (zq_b01_t (Or.inl c1)).symm⟩
      · rw [if_neg c1]
        by_cases c2 : t.toInt < (M.m_keyTimes v7).toInt
        · rw [if_pos c2, q_Mo_gather_97]; exact ⟨1, rfl, fun _ => (zq_b01_t (Or.inr (Or.inl c2))).symm⟩
        · rw [if_neg c2]
          by_cases c3 : t.toInt = (M.m_keyTimes v7).toInt
          · rw [if_pos c3]
            by_cases c4 : w32 (M.m_keySeries v7) ≤ w32 s
            · rw [if_pos c4, q_Mo_gather_101]
              refine ⟨0, rfl, fun z => (zq_b01_f ?_).symm⟩
              have := hks2 (Or.inl z) (by omega)
              rw [zq_w32i (z := M.m_keySeries v7) (by omega) (by omega), zq_w32i (z := s) (by omega) (by omega)] at c4
              rintro (q | q | q)
              · exact c1 q
              · exact c2 q
              · omega
            · rw [if_neg c4, q_Mo_gather_97]
              refine ⟨1, rfl, fun z => (zq_b01_t ?_).symm⟩
              have := hks2 (Or.inl z) (by omega)
              rw [zq_w32i (z := M.m_keySeries v7) (by omega) (by omega), zq_w32i (z := s) (by omega) (by omega)] at c4
              exact Or.inr (Or.inr ⟨c3, by omega⟩)
          · rw [if_neg c3, q_Mo_gather_101]
            refine ⟨0, rfl, fun z => (zq_b01_f ?_).symm⟩
            rintro (q | q | q)
            · exact c1 q
            · exact c2 q
            · exact c3 q.1
    obtain ⟨f1, a1, a2⟩ := fst
    obtain ⟨f2, b1, b2⟩ := snd f1
    rw [a1, b1, q_Mo_gather_152, zq_w32i (z := kd - 1) (by omega) (by omega)]
    by_cases c5 : kd - 1 = 4
    · rw [if_pos c5]; exact ⟨f1, rfl, a2, fun z => by omega⟩
    · rw [if_neg c5]; exact ⟨f2, rfl, fun z => by omega, b2⟩
  obtain ⟨fl, f1, f5, f6⟩ := flag
  rw [f1, q_Mo_gather_166, zq_w32i (z := kd - 1) (by omega) (by omega)]
  have e361 : ∀ S : MS, q_Mo_gather_361 j S = some ((), MS.w_m_isCell S (aU S.m_isCell j 1)) := fun S => by rw [q_Mo_gather_361, if_pos gj]
  have put : ∀ y : Int64, ∃ ic ce kt ks, q_Mo_gather_361 j (MS.w_m_cells M (aU M.m_cells j y)) = some ((), zq_gz M ic ce kt ks) ∧ (ic j = 1 ∧ ce j = y) ∧ (∀ i, i ≠ j → ic i = M.m_isCell i ∧ ce i = M.m_cells i) ∧ (∀ i, kt i = M.m_keyTimes i ∧ ks i = M.m_keySeries i) := by
    intro y
    refine ⟨aU M.m_isCell j 1, aU M.m_cells j y, M.m_keyTimes, M.m_keySeries, ?_, ⟨zq_aU_at _ _ _, zq_aU_at _ _ _⟩, fun i hi => ⟨zq_aU_ne _ _ _ _ hi, zq_aU_ne _ _ _ _ hi⟩, fun i => ⟨rfl, rfl⟩⟩
    rw [e361]; rfl
  have done : ∀ (y : Int64) (R : Option (Unit × MS)) (cs' : zq_CS), cs' = some (y, 0, 0) → ¬ (kd = 5 ∨ kd = 6) → R = q_Mo_gather_361 j (MS.w_m_cells M (aU M.m_cells j y)) → ∃ ic ce kt ks, R = some ((), zq_gz M ic ce kt ks) ∧ zq_CR (zq_gz M ic ce kt ks) kd j v7 cs' ∧ (∀ i, i ≠ j → ic i = M.m_isCell i ∧ ce i = M.m_cells i) ∧ (∀ i, i ≠ v7 → kt i = M.m_keyTimes i ∧ ks i = M.m_keySeries i) := by
    intro y R cs' h1 h2 h3
    obtain ⟨ic, ce, kt, ks, p1, p2, p3, p4⟩ := put y
    refine ⟨ic, ce, kt, ks, by rw [h3, p1], ?_, p3, fun i _ => p4 i⟩
    rw [h1]; exact ⟨p2.1, p2.2, fun z => absurd z h2⟩
  have ev : M.m_cells j = (match cs with | some y => y.1 | none => ll 0) := by cases cs with
    | none => exact hc.2
    | some y => exact hc.2.1
  by_cases k1 : kd = 1
  · rw [if_pos (by omega), q_Mo_gather_177, if_pos gj, zq_w32i (z := kd - 1) (by omega) (by omega), if_pos (by omega), q_Mo_gather_195, if_pos gj]
    exact done (M.m_cells j + x) _ _ (by unfold zq_cst; rw [if_pos k1, ev]; cases cs <;> rfl) (by omega) rfl
  by_cases k2 : kd = 2
  · rw [if_neg (by omega), if_pos (by omega), q_Mo_gather_177, if_pos gj, zq_w32i (z := kd - 1) (by omega) (by omega), if_neg (by omega), q_Mo_gather_195, if_pos gj]
    exact done (M.m_cells j + ll 1) _ _ (by unfold zq_cst; rw [if_neg k1, if_pos k2, ev]; cases cs <;> rfl) (by omega) rfl
  rw [if_neg (by omega), if_neg (by omega)]
  by_cases k3 : kd = 3
  · rw [if_pos (by omega), q_Mo_gather_210, zq_w32i (z := M.m_isCell j) (by omega) (by omega), zq_w32i (z := kd - 1) (by omega) (by omega), if_pos gj, if_pos (show kd - 1 = 2 by omega)]
    cases cs with
    | none =>
      rw [if_pos hc.1, q_Mo_gather_255, q_Mo_gather_267, if_pos gj]
      exact done x _ _ (by unfold zq_cst; rw [if_neg k1, if_neg k2, if_pos k3]) (by omega) rfl
    | some y =>
      have hc1 : M.m_isCell j = 1 := hc.1
      have ey : M.m_cells j = y.1 := hc.2.1
      rw [if_neg (by omega)]
      by_cases c : (M.m_cells j).toInt ≤ x.toInt
      · rw [if_pos c, q_Mo_gather_260, if_pos gj, q_Mo_gather_267, if_pos gj]
        refine done (M.m_cells j) _ _ ?_ (by omega) rfl
        unfold zq_cst; rw [if_neg k1, if_neg k2, if_pos k3, ey]; rw [ey] at c; show some ((if y.1.toInt ≤ x.toInt then y.1 else x), (0 : Int), (0 : Int)) = _; rw [if_pos c]
      · rw [if_neg c, q_Mo_gather_255, q_Mo_gather_267, if_pos gj]
        refine done x _ _ ?_ (by omega) rfl
        unfold zq_cst; rw [if_neg k1, if_neg k2, if_pos k3]; rw [ey] at c; show some ((if y.1.toInt ≤ x.toInt then y.1 else x), (0 : Int), (0 : Int)) = _; rw [if_neg c]
  by_cases k4 : kd = 4
  · rw [if_neg (by omega), if_pos (by omega), q_Mo_gather_210, zq_w32i (z := M.m_isCell j) (by omega) (by omega), zq_w32i (z := kd - 1) (by omega) (by omega), if_pos gj, if_neg (show ¬ kd - 1 = 2 by omega)]
    cases cs with
    | none =>
      rw [if_pos hc.1, q_Mo_gather_255, q_Mo_gather_267, if_pos gj]
      exact done x _ _ (by unfold zq_cst; rw [if_neg k1, if_neg k2, if_neg k3, if_pos k4]) (by omega) rfl
    | some y =>
      have hc1 : M.m_isCell j = 1 := hc.1
      have ey : M.m_cells j = y.1 := hc.2.1
      rw [if_neg (by omega), if_pos gj]
      by_cases c : x.toInt ≤ (M.m_cells j).toInt
      · rw [if_pos c, q_Mo_gather_260, if_pos gj, q_Mo_gather_267, if_pos gj]
        refine done (M.m_cells j) _ _ ?_ (by omega) rfl
        unfold zq_cst; rw [if_neg k1, if_neg k2, if_neg k3, if_pos k4, ey]; rw [ey] at c; show some ((if x.toInt ≤ y.1.toInt then y.1 else x), (0 : Int), (0 : Int)) = _; rw [if_pos c]
      · rw [if_neg c, q_Mo_gather_255, q_Mo_gather_267, if_pos gj]
        refine done x _ _ ?_ (by omega) rfl
        unfold zq_cst; rw [if_neg k1, if_neg k2, if_neg k3, if_pos k4]; rw [ey] at c; show some ((if x.toInt ≤ y.1.toInt then y.1 else x), (0 : Int), (0 : Int)) = _; rw [if_neg c]
  rw [if_neg (by omega), if_neg (by omega)]
  have gs : (0 : Int) ≤ s ∧ s < 256 := ⟨hs.2.1, hs.2.2⟩
  by_cases k7 : kd = 7
  · rw [if_pos (by omega), if_pos gs]
    rcases hb with ⟨b1, b2⟩ | ⟨b1, b2⟩
    · rw [b1, if_pos (by decide), b2]
      refine ⟨M.m_isCell, M.m_cells, M.m_keyTimes, M.m_keySeries, rfl, ?_, fun _ _ => ⟨rfl, rfl⟩, fun _ _ => ⟨rfl, rfl⟩⟩
      unfold zq_cst; rw [if_neg k1, if_neg k2, if_neg k3, if_neg k4, if_neg (by omega), if_neg (by omega)]
      exact hc
    · rw [b1, if_neg (by decide), if_pos gj, if_pos gs, b2]
      by_cases c : (M.m_befores s).toInt ≤ x.toInt
      · rw [if_pos c, if_pos gs, q_Mo_gather_324, if_pos gj]
        refine done (M.m_cells j + (x - M.m_befores s)) _ _ ?_ (by omega) rfl
        unfold zq_cst; rw [if_neg k1, if_neg k2, if_neg k3, if_neg k4, if_neg (by omega), if_neg (by omega), ev]
        show some (_ + (if x.toInt < (M.m_befores s).toInt then x else x - M.m_befores s), (0 : Int), (0 : Int)) = _
        rw [if_neg (by omega)]; cases cs <;> rfl
      · rw [if_neg c, q_Mo_gather_324, if_pos gj]
        refine done (M.m_cells j + x) _ _ ?_ (by omega) rfl
        unfold zq_cst; rw [if_neg k1, if_neg k2, if_neg k3, if_neg k4, if_neg (by omega), if_neg (by omega), ev]
        show some (_ + (if x.toInt < (M.m_befores s).toInt then x else x - M.m_befores s), (0 : Int), (0 : Int)) = _
        rw [if_pos (by omega)]; cases cs <;> rfl
  rw [if_neg (by omega)]
  -- first and latest
  have set1 : ∀ cs' : zq_CS, fl = 1 → cs' = some (x, t.toInt, s) → ∃ ic ce kt ks, (if w32 fl = 0 then q_Mo_gather_361 j M else if (0 : Int) ≤ j ∧ j < 327680 then if (0 : Int) ≤ v7 ∧ v7 < 16384 then if (0 : Int) ≤ v7 ∧ v7 < 16384 then q_Mo_gather_361 j (MS.w_m_keySeries (MS.w_m_keyTimes (MS.w_m_cells M (aU M.m_cells j x)) (aU M.m_keyTimes v7 t)) (aU M.m_keySeries v7 s)) else none else none else none) = some ((), zq_gz M ic ce kt ks) ∧ zq_CR (zq_gz M ic ce kt ks) kd j v7 cs' ∧ (∀ i, i ≠ j → ic i = M.m_isCell i ∧ ce i = M.m_cells i) ∧ (∀ i, i ≠ v7 → kt i = M.m_keyTimes i ∧ ks i = M.m_keySeries i) := by
    intro cs' h1 h2
    refine ⟨aU M.m_isCell j 1, aU M.m_cells j x, aU M.m_keyTimes v7 t, aU M.m_keySeries v7 s, ?_, ?_, fun i hi => ⟨zq_aU_ne _ _ _ _ hi, zq_aU_ne _ _ _ _ hi⟩, fun i hi => ⟨zq_aU_ne _ _ _ _ hi, zq_aU_ne _ _ _ _ hi⟩⟩
    · rw [h1, if_neg (by decide), if_pos gj, if_pos g7, if_pos g7, e361]; rfl
    · rw [h2]
      exact ⟨zq_aU_at _ _ _, zq_aU_at _ _ _, fun _ => ⟨by show (aU M.m_keyTimes v7 t v7).toInt = _; rw [zq_aU_at], zq_aU_at _ _ _⟩⟩
  have set0 : ∀ y cs', cs = some y → fl = 0 → cs' = cs → ∃ ic ce kt ks, (if w32 fl = 0 then q_Mo_gather_361 j M else if (0 : Int) ≤ j ∧ j < 327680 then if (0 : Int) ≤ v7 ∧ v7 < 16384 then if (0 : Int) ≤ v7 ∧ v7 < 16384 then q_Mo_gather_361 j (MS.w_m_keySeries (MS.w_m_keyTimes (MS.w_m_cells M (aU M.m_cells j x)) (aU M.m_keyTimes v7 t)) (aU M.m_keySeries v7 s)) else none else none else none) = some ((), zq_gz M ic ce kt ks) ∧ zq_CR (zq_gz M ic ce kt ks) kd j v7 cs' ∧ (∀ i, i ≠ j → ic i = M.m_isCell i ∧ ce i = M.m_cells i) ∧ (∀ i, i ≠ v7 → kt i = M.m_keyTimes i ∧ ks i = M.m_keySeries i) := by
    intro y cs' h0 h1 h2
    refine ⟨aU M.m_isCell j 1, M.m_cells, M.m_keyTimes, M.m_keySeries, ?_, ?_, fun i hi => ⟨zq_aU_ne _ _ _ _ hi, rfl⟩, fun i hi => ⟨rfl, rfl⟩⟩
    · rw [h1, if_pos (by decide), e361]; rfl
    · rw [h2, h0]
      rw [h0] at hc
      exact ⟨zq_aU_at _ _ _, hc.2.1, hc.2.2⟩
  by_cases k5 : kd = 5
  · have f5' := f5 k5
    cases cs with
    | none => exact set1 _ (by rw [f5', zq_b01_t (Or.inl hc.1)]) (by unfold zq_cst; rw [if_neg k1, if_neg k2, if_neg k3, if_neg k4, if_pos k5])
    | some y =>
      have hc1 : M.m_isCell j = 1 := hc.1
      obtain ⟨q1, q2⟩ := hc.2.2 (Or.inl k5)
      have ec : zq_cst kd (some y) (s, t, x, b) = if t.toInt < y.2.1 ∨ (t.toInt = y.2.1 ∧ s < y.2.2) then some (x, t.toInt, s) else some y := by unfold zq_cst; rw [if_neg k1, if_neg k2, if_neg k3, if_neg k4, if_pos k5]
      rw [ec, ← q1, ← q2]
      by_cases c : t.toInt < (M.m_keyTimes v7).toInt ∨ (t.toInt = (M.m_keyTimes v7).toInt ∧ s < M.m_keySeries v7)
      · rw [if_pos c]; exact set1 _ (by rw [f5', zq_b01_t (Or.inr c)]) rfl
      · rw [if_neg c]; exact set0 y _ rfl (by rw [f5', zq_b01_f (by rintro (z | z); omega; exact c z)]) rfl
  · have k6 : kd = 6 := by omega
    have f6' := f6 k6
    cases cs with
    | none => exact set1 _ (by rw [f6', zq_b01_t (Or.inl hc.1)]) (by unfold zq_cst; rw [if_neg k1, if_neg k2, if_neg k3, if_neg k4, if_neg k5, if_pos k6])
    | some y =>
      have hc1 : M.m_isCell j = 1 := hc.1
      obtain ⟨q1, q2⟩ := hc.2.2 (Or.inr k6)
      have ec : zq_cst kd (some y) (s, t, x, b) = if y.2.1 < t.toInt ∨ (t.toInt = y.2.1 ∧ s < y.2.2) then some (x, t.toInt, s) else some y := by unfold zq_cst; rw [if_neg k1, if_neg k2, if_neg k3, if_neg k4, if_neg k5, if_pos k6]
      rw [ec, ← q1, ← q2]
      by_cases c : (M.m_keyTimes v7).toInt < t.toInt ∨ (t.toInt = (M.m_keyTimes v7).toInt ∧ s < M.m_keySeries v7)
      · rw [if_pos c]; exact set1 _ (by rw [f6', zq_b01_t (Or.inr c)]) rfl
      · rw [if_neg c]; exact set0 y _ rfl (by rw [f6', zq_b01_f (by rintro (z | z); omega; exact c z)]) rfl
end
