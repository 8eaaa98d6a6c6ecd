theorem w_1073 : (Jvm.Cond.methodLink "WindowTables$Groups" (87 : Nat) ({ cls := "java/lang/System", name := "arraycopy", desc := "(Ljava/lang/Object;ILjava/lang/Object;II)V" } : Jvm.MethodName)) ∈ jw_all := jw_in5 113 rfl rfl
/-! ===== the class's state ===== -/
/-- lengths of arrays, how many series, what may still be made -/
structure CW where
  tc : Int
  oc : Int
  mo : Int
  gc : Nat → Int
  pc : Nat → Int
  ln : Nat → Int
  lm : Nat → Int
  N : Nat
  bc : Nat
  bs : Nat
/-- addresses that change -/
structure AW where
  ta : Nat
  oa : Nat
  ma : Nat
  gn : Nat → Nat
  gt : Nat → Nat
  us : Nat → Nat → Nat
structure WS where
  wt_faultCode : Int
  wt_faultPlace : Int
  wt_hasTable : Int
  tp_size : Int
  tp_bytes : Int → Int
  st_horizon : Int64
  st_headSize : Int
  st_parcels : Int
  st_scars : Int
  lr_labels : Int
  lr_length : Int
  lr_faultCode : Int
  lr_faultPlace : Int
  lr_nameAt : Int → Int
  lr_signAt : Int → Int
  lr_valueEnd : Int → Int
  lr_letters : Int → Int
  pg_size : Int
  pg_orders : Int → Int
  qr_faultCode : Int
  qr_faultPlace : Int
  qr_clashPlace : Int
  qr_naming : Int
  lx_kind : Int
  lx_at : Int
  lx_behind : Int
  lx_number : Int64
  gr_nameCount : Int
  gr_size : Int
  gr_labels : Int → Int
  gr_order : Int → Int
  gr_groupOf : Int → Int
  gr_leaders : Int → Int
  ev_height : Int
  ev_from : Int64
  ev_width : Int64
  ev_windows : Int
  ev_stack : Int → Nat
  ev_moments : Int → Int64
  se_letters : Nat → Int → Int
  se_starts : Nat → Int → Int
  se_signs : Nat → Int → Int
  se_ends : Nat → Int → Int
  pt_times : Nat → Int → Int64
  pt_values : Nat → Int → Int64
  pt_size : Nat → Int
  pt_packed : Nat → Int
  pt_lastTime : Nat → Int64
  gd_numbers : Nat → Int → Int64
  gd_there : Nat → Int → Int
  gd_lines : Nat → Int
  gd_windows : Nat → Int
  gd_named : Nat → Int
def serW (D : jd_T) (A : AW) (c : CW) (S : WS) (i : Nat) : List sg_A := [ob D (A.us i 0) 9 [.ref (A.us i 1), .ref (A.us i 2), .ref (A.us i 3), .ref (A.us i 4), .ref (A.us i 5)], ai D 1 (A.us i 1) (c.ln i) (S.se_letters i), ai D 0 (A.us i 2) (c.lm i) (S.se_starts i), ai D 0 (A.us i 3) (c.lm i) (S.se_signs i), ai D 0 (A.us i 4) (c.lm i) (S.se_ends i), ob D (A.us i 5) 6 [.ref (A.us i 6), .ref (A.us i 7), .int (ii (S.pt_size i)), .int (ii (S.pt_packed i)), .long (S.pt_lastTime i)], al D 2 (A.us i 6) (c.pc i) (S.pt_times i), al D 2 (A.us i 7) (c.pc i) (S.pt_values i)]
def grdW (D : jd_T) (g : Nat → Nat) (A : AW) (c : CW) (S : WS) (j : Nat) : List sg_A := [ob D (g (19 + j)) 2 [.ref (A.gn j), .ref (A.gt j), .int (ii (S.gd_lines j)), .int (ii (S.gd_windows j)), .int (ii (S.gd_named j))], al D 2 (A.gn j) (c.gc j) (S.gd_numbers j), ai D 3 (A.gt j) (c.gc j) (S.gd_there j)]
def wtL (D : jd_T) (g : Nat → Nat) (A : AW) (c : CW) (S : WS) : List sg_A := [ob D (g 0) 0 [.ref (g 1), .ref (g 2), .ref (g 4), .ref (g 9), .ref (g 10), .ref (g 12), .ref (g 17), .int (ii S.wt_faultCode), .int (ii S.wt_faultPlace), .int (ii S.wt_hasTable)],
  ob D (g 1) 11 [.ref A.ta, .int (ii S.tp_size)],
  ai D 1 A.ta c.tc S.tp_bytes,
  ob D (g 2) 10 [.ref (g 3), .int (ii (c.N : Int)), .long S.st_horizon, .int (ii S.st_headSize), .int (ii S.st_parcels), .int (ii S.st_scars)],
  aq D 4 (g 3) 256 (fun k => if 0 ≤ k ∧ k < (c.N : Int) then .ref (A.us k.toNat 0) else .null),
  sg_big (fun i => sg_l (serW D A c S i)) c.N,
  ob D (g 4) 4 [.ref (g 5), .ref (g 6), .ref (g 7), .int (ii S.lr_labels), .ref (g 8), .int (ii S.lr_length), .int (ii S.lr_faultCode), .int (ii S.lr_faultPlace)],
  ai D 0 (g 5) 6 S.lr_nameAt,
  ai D 0 (g 6) 6 S.lr_signAt,
  ai D 0 (g 7) 6 S.lr_valueEnd,
  ai D 1 (g 8) 300 S.lr_letters,
  ob D (g 9) 7 [.ref A.oa, .int (ii S.pg_size)],
  ai D 0 A.oa c.oc S.pg_orders,
  ob D (g 10) 8 [.ref (g 1), .ref (g 11), .ref (g 9), .int (ii S.qr_faultCode), .int (ii S.qr_faultPlace), .int (ii S.qr_clashPlace), .int (ii S.qr_naming)],
  ob D (g 11) 5 [.ref (g 1), .int (ii S.lx_kind), .int (ii S.lx_at), .int (ii S.lx_behind), .long S.lx_number],
  ob D (g 12) 3 [.ref (g 1), .ref (g 2), .ref (g 9), .int (ii S.gr_nameCount), .int (ii S.gr_size), .ref (g 13), .ref (g 14), .ref (g 15), .ref (g 16)],
  ai D 0 (g 13) 1536 S.gr_labels,
  ai D 0 (g 14) 256 S.gr_order,
  ai D 0 (g 15) 256 S.gr_groupOf,
  ai D 0 (g 16) 256 S.gr_leaders,
  ob D (g 17) 1 [.ref (g 1), .ref (g 2), .ref (g 9), .ref (g 12), .ref (g 18), .int (ii S.ev_height), .ref A.ma, .long S.ev_from, .long S.ev_width, .int (ii S.ev_windows)],
  aq D 5 (g 18) 19 (fun k => .ref (g (19 + S.ev_stack k))),
  al D 2 A.ma c.mo S.ev_moments,
  sg_big (fun j => sg_l (grdW D g A c S j)) 19]
theorem grd_ne {D : jd_T} {g : Nat → Nat} {A : AW} {c : CW} {S : WS} {h : sg_F} (hl : sg_l (wtL D g A c S) h) (i j : Nat) (hi : i < 19) (hj : j < 19) (hne : i ≠ j) : g (19 + i) ≠ g (19 + j) := by
  obtain ⟨f, g1, d, e, p, -⟩ := sg_pull _ 23 _ h (show (wtL D g A c S)[23]? = some (sg_big (fun j => sg_l (grdW D g A c S j)) 19) from rfl) hl
  refine sg_big_ne (ad := fun j => g (19 + j)) (fun i f hf => ?_) p i j hi hj hne
  obtain ⟨f1, f2, -, e1, ⟨cell, r, h1, -⟩, -⟩ := hf
  rw [e1, h1]
  intro z
  have := (sg_un_none.mp z).1
  rw [sg_1_at] at this; cases this
def aC {α : Type} (f : Int → α) (sp dp n : Int) : Int → α := fun j => if dp ≤ j ∧ j < dp + n then f (sp + (j - dp)) else f j
theorem stk_set (D : jd_T) (g : Nat → Nat) (P : Int → Nat) (i : Int) (v : Nat) : aq D 5 (g 18) 19 (fun j => if j = i then .ref (g (19 + v)) else (fun k => Value.ref (g (19 + P k))) j) = aq D 5 (g 18) 19 (fun k => .ref (g (19 + aU P i v k))) := by
  congr 1; funext j; simp only [aU]; split <;> rfl
theorem idx_lt {i : Int} {N : Nat} (h0 : 0 ≤ i) (h1 : i < (N : Int)) : i.toNat < N := by omega
set_option maxHeartbeats 4000000 in
set_option maxRecDepth 100000 in
theorem r_St_find (l : Launch) (D : jd_T) (g : Nat → Nat) (A : AW) (c : CW) (S : WS) (v1 : Int) (hy : ((0 : Int) ≤ v1 ∧ v1 < (c.N : Int)) ∧ c.N ≤ 256) : jc_C l D y_St_find b_St_find 2 (some (.object "WindowTables$Series")) { frames := 0, cells := 0, slots := 0, locals := 0 } [.ref (g 2), .int (ii v1)] (wtL D g A c S) (fun _ : Unit => (.returned (some (.ref (A.us v1.toNat 0))), True, wtL D g A c S)) := by
  obtain ⟨⟨h0, h1⟩, h2⟩ := hy
  refine jc_of rfl (Nat.le_of_ble_eq_true rfl) ?_
  intro X hl hR hN ok hnm fin
  subst hl
  show jw X 0 0 (wtL D g A c S) [(0, .ref (g 2)), (1, .int (ii v1))] 0 []
  refine jr_iload_n ok 1 d_St_find_0 rfl rfl ?_
  refine jr_if_lt 21 ok ⟨by omega, by omega⟩ d_St_find_1 (by decide) (fun c1 => by omega) (fun c1 => ?_)
  refine jr_iload_n ok 1 d_St_find_4 rfl rfl ?_
  refine jr_aload_n ok 0 d_St_find_5 rfl rfl ?_
  refine jr_get (v := .int (ii (c.N : Int))) ok 3 f_St_17 rfl rfl d_St_find_6 ?_
  refine jr_icmp_ge 21 ok ⟨by omega, by omega⟩ ⟨by omega, by omega⟩ d_St_find_9 (by decide) (fun c1 => by omega) (fun c1 => ?_)
  refine jr_aload_n ok 0 d_St_find_12 rfl rfl ?_
  refine jr_get (v := .ref (g 3)) ok 3 f_St_11 rfl rfl d_St_find_13 ?_
  refine jr_iload_n ok 1 d_St_find_16 rfl rfl ?_
  refine jr_aald ok 4 rfl rfl rfl h0 (by omega) d_St_find_17 ?_
  rw [if_pos ⟨h0, h1⟩]
  refine jr_goto 22 ok d_St_find_18 (by decide) ?_
  exact jr_aret ok (Or.inr ⟨_, rfl⟩) fin (Nat.le_refl _) (Nat.le_refl _) () rfl trivial sg_same d_St_find_22
