theorem w_1073 : (Jvm.Cond.methodLink "WindowTables$Groups" (87 : Nat) ({ cls := "java/lang/System", name := "arraycopy", desc := "(Ljava/lang/Object;ILjava/lang/Object;II)V" } : Jvm.MethodName)) ∈ jw_all := jw_in5 113 rfl rfl
/-! ===== the state of the program: CW lengths of arrays, how many series, what may still be made; AW addresses that change ===== -/
abbrev CW : Type := (((((Int) × (Int)) × (Int)) × (((Nat → Int) × (Nat → Int)) × (Nat → Int))) × ((((Nat → Int) × (Nat → Int)) × (Nat → Int)) × (((Nat) × (Nat)) × (Nat))))
abbrev CW.tc (s : CW) : Int := s.1.1.1.1
abbrev CW.oc (s : CW) : Int := s.1.1.1.2
abbrev CW.mo (s : CW) : Int := s.1.1.2
abbrev CW.gc (s : CW) : Nat → Int := s.1.2.1.1
abbrev CW.gd (s : CW) : Nat → Int := s.1.2.1.2
abbrev CW.pc (s : CW) : Nat → Int := s.1.2.2
abbrev CW.pv (s : CW) : Nat → Int := s.2.1.1.1
abbrev CW.ln (s : CW) : Nat → Int := s.2.1.1.2
abbrev CW.lm (s : CW) : Nat → Int := s.2.1.2
abbrev CW.N (s : CW) : Nat := s.2.2.1.1
abbrev CW.bc (s : CW) : Nat := s.2.2.1.2
abbrev CW.bs (s : CW) : Nat := s.2.2.2
abbrev CW.w_tc (s : CW) (x : Int) : CW := ((((x, s.1.1.1.2), s.1.1.2), s.1.2), s.2)
abbrev CW.w_oc (s : CW) (x : Int) : CW := ((((s.1.1.1.1, x), s.1.1.2), s.1.2), s.2)
abbrev CW.w_mo (s : CW) (x : Int) : CW := (((s.1.1.1, x), s.1.2), s.2)
abbrev CW.w_gc (s : CW) (x : Nat → Int) : CW := ((s.1.1, ((x, s.1.2.1.2), s.1.2.2)), s.2)
abbrev CW.w_gd (s : CW) (x : Nat → Int) : CW := ((s.1.1, ((s.1.2.1.1, x), s.1.2.2)), s.2)
abbrev CW.w_pc (s : CW) (x : Nat → Int) : CW := ((s.1.1, (s.1.2.1, x)), s.2)
abbrev CW.w_pv (s : CW) (x : Nat → Int) : CW := (s.1, (((x, s.2.1.1.2), s.2.1.2), s.2.2))
abbrev CW.w_ln (s : CW) (x : Nat → Int) : CW := (s.1, (((s.2.1.1.1, x), s.2.1.2), s.2.2))
abbrev CW.w_lm (s : CW) (x : Nat → Int) : CW := (s.1, ((s.2.1.1, x), s.2.2))
abbrev CW.w_N (s : CW) (x : Nat) : CW := (s.1, (s.2.1, ((x, s.2.2.1.2), s.2.2.2)))
abbrev CW.w_bc (s : CW) (x : Nat) : CW := (s.1, (s.2.1, ((s.2.2.1.1, x), s.2.2.2)))
abbrev CW.w_bs (s : CW) (x : Nat) : CW := (s.1, (s.2.1, (s.2.2.1, x)))

abbrev AW : Type := ((((Nat) × (Nat)) × (Nat)) × (((Nat → Nat) × (Nat → Nat)) × (Nat → Nat → Nat)))
abbrev AW.ta (s : AW) : Nat := s.1.1.1
abbrev AW.oa (s : AW) : Nat := s.1.1.2
abbrev AW.ma (s : AW) : Nat := s.1.2
abbrev AW.gn (s : AW) : Nat → Nat := s.2.1.1
abbrev AW.gt (s : AW) : Nat → Nat := s.2.1.2
abbrev AW.us (s : AW) : Nat → Nat → Nat := s.2.2
abbrev AW.w_ta (s : AW) (x : Nat) : AW := (((x, s.1.1.2), s.1.2), s.2)
abbrev AW.w_oa (s : AW) (x : Nat) : AW := (((s.1.1.1, x), s.1.2), s.2)
abbrev AW.w_ma (s : AW) (x : Nat) : AW := ((s.1.1, x), s.2)
abbrev AW.w_gn (s : AW) (x : Nat → Nat) : AW := (s.1, ((x, s.2.1.2), s.2.2))
abbrev AW.w_gt (s : AW) (x : Nat → Nat) : AW := (s.1, ((s.2.1.1, x), s.2.2))
abbrev AW.w_us (s : AW) (x : Nat → Nat → Nat) : AW := (s.1, (s.2.1, x))

abbrev WS : Type := (((((((Int) × (Int)) × ((Int) × (Int))) × (((Int → Int) × (Int64)) × (Int))) × ((((Int) × (Int)) × ((Int) × (Int))) × (((Int) × (Int)) × (Int → Int)))) × (((((Int → Int) × (Int → Int)) × ((Int → Int) × (Int))) × (((Int → Int) × (Int)) × (Int))) × ((((Int) × (Int)) × (Int)) × (((Int) × (Int)) × (Int64))))) × ((((((Int) × (Int)) × ((Int → Int) × (Int → Int))) × (((Int → Int) × (Int → Int)) × (Int))) × ((((Int64) × (Int64)) × (Int)) × (((Int → Nat) × (Int → Int64)) × (Nat → Int → Int)))) × (((((Nat → Int → Int) × (Nat → Int → Int)) × ((Nat → Int → Int) × (Nat → Int → Int64))) × (((Nat → Int → Int64) × (Nat → Int)) × (Nat → Int))) × ((((Nat → Int64) × (Nat → Int → Int64)) × (Nat → Int → Int)) × (((Nat → Int) × (Nat → Int)) × (Nat → Int))))))
abbrev WS.wt_faultCode (s : WS) : Int := s.1.1.1.1.1.1
abbrev WS.wt_faultPlace (s : WS) : Int := s.1.1.1.1.1.2
abbrev WS.wt_hasTable (s : WS) : Int := s.1.1.1.1.2.1
abbrev WS.tp_size (s : WS) : Int := s.1.1.1.1.2.2
abbrev WS.tp_bytes (s : WS) : Int → Int := s.1.1.1.2.1.1
abbrev WS.st_horizon (s : WS) : Int64 := s.1.1.1.2.1.2
abbrev WS.st_headSize (s : WS) : Int := s.1.1.1.2.2
abbrev WS.st_parcels (s : WS) : Int := s.1.1.2.1.1.1
abbrev WS.st_scars (s : WS) : Int := s.1.1.2.1.1.2
abbrev WS.lr_labels (s : WS) : Int := s.1.1.2.1.2.1
abbrev WS.lr_length (s : WS) : Int := s.1.1.2.1.2.2
abbrev WS.lr_faultCode (s : WS) : Int := s.1.1.2.2.1.1
abbrev WS.lr_faultPlace (s : WS) : Int := s.1.1.2.2.1.2
abbrev WS.lr_nameAt (s : WS) : Int → Int := s.1.1.2.2.2
abbrev WS.lr_signAt (s : WS) : Int → Int := s.1.2.1.1.1.1
abbrev WS.lr_valueEnd (s : WS) : Int → Int := s.1.2.1.1.1.2
abbrev WS.lr_letters (s : WS) : Int → Int := s.1.2.1.1.2.1
abbrev WS.pg_size (s : WS) : Int := s.1.2.1.1.2.2
abbrev WS.pg_orders (s : WS) : Int → Int := s.1.2.1.2.1.1
abbrev WS.qr_faultCode (s : WS) : Int := s.1.2.1.2.1.2
abbrev WS.qr_faultPlace (s : WS) : Int := s.1.2.1.2.2
abbrev WS.qr_clashPlace (s : WS) : Int := s.1.2.2.1.1.1
abbrev WS.qr_naming (s : WS) : Int := s.1.2.2.1.1.2
abbrev WS.lx_kind (s : WS) : Int := s.1.2.2.1.2
abbrev WS.lx_at (s : WS) : Int := s.1.2.2.2.1.1
abbrev WS.lx_behind (s : WS) : Int := s.1.2.2.2.1.2
abbrev WS.lx_number (s : WS) : Int64 := s.1.2.2.2.2
abbrev WS.gr_nameCount (s : WS) : Int := s.2.1.1.1.1.1
abbrev WS.gr_size (s : WS) : Int := s.2.1.1.1.1.2
abbrev WS.gr_labels (s : WS) : Int → Int := s.2.1.1.1.2.1
abbrev WS.gr_order (s : WS) : Int → Int := s.2.1.1.1.2.2
abbrev WS.gr_groupOf (s : WS) : Int → Int := s.2.1.1.2.1.1
abbrev WS.gr_leaders (s : WS) : Int → Int := s.2.1.1.2.1.2
abbrev WS.ev_height (s : WS) : Int := s.2.1.1.2.2
abbrev WS.ev_from (s : WS) : Int64 := s.2.1.2.1.1.1
abbrev WS.ev_width (s : WS) : Int64 := s.2.1.2.1.1.2
abbrev WS.ev_windows (s : WS) : Int := s.2.1.2.1.2
abbrev WS.ev_stack (s : WS) : Int → Nat := s.2.1.2.2.1.1
abbrev WS.ev_moments (s : WS) : Int → Int64 := s.2.1.2.2.1.2
abbrev WS.se_letters (s : WS) : Nat → Int → Int := s.2.1.2.2.2
abbrev WS.se_starts (s : WS) : Nat → Int → Int := s.2.2.1.1.1.1
abbrev WS.se_signs (s : WS) : Nat → Int → Int := s.2.2.1.1.1.2
abbrev WS.se_ends (s : WS) : Nat → Int → Int := s.2.2.1.1.2.1
abbrev WS.pt_times (s : WS) : Nat → Int → Int64 := s.2.2.1.1.2.2
abbrev WS.pt_values (s : WS) : Nat → Int → Int64 := s.2.2.1.2.1.1
abbrev WS.pt_size (s : WS) : Nat → Int := s.2.2.1.2.1.2
abbrev WS.pt_packed (s : WS) : Nat → Int := s.2.2.1.2.2
abbrev WS.pt_lastTime (s : WS) : Nat → Int64 := s.2.2.2.1.1.1
abbrev WS.gd_numbers (s : WS) : Nat → Int → Int64 := s.2.2.2.1.1.2
abbrev WS.gd_there (s : WS) : Nat → Int → Int := s.2.2.2.1.2
abbrev WS.gd_lines (s : WS) : Nat → Int := s.2.2.2.2.1.1
abbrev WS.gd_windows (s : WS) : Nat → Int := s.2.2.2.2.1.2
abbrev WS.gd_named (s : WS) : Nat → Int := s.2.2.2.2.2
abbrev WS.w_wt_faultCode (s : WS) (x : Int) : WS := ((((((x, s.1.1.1.1.1.2), s.1.1.1.1.2), s.1.1.1.2), s.1.1.2), s.1.2), s.2)
abbrev WS.w_wt_faultPlace (s : WS) (x : Int) : WS := ((((((s.1.1.1.1.1.1, x), s.1.1.1.1.2), s.1.1.1.2), s.1.1.2), s.1.2), s.2)
abbrev WS.w_wt_hasTable (s : WS) (x : Int) : WS := (((((s.1.1.1.1.1, (x, s.1.1.1.1.2.2)), s.1.1.1.2), s.1.1.2), s.1.2), s.2)
abbrev WS.w_tp_size (s : WS) (x : Int) : WS := (((((s.1.1.1.1.1, (s.1.1.1.1.2.1, x)), s.1.1.1.2), s.1.1.2), s.1.2), s.2)
abbrev WS.w_tp_bytes (s : WS) (x : Int → Int) : WS := ((((s.1.1.1.1, ((x, s.1.1.1.2.1.2), s.1.1.1.2.2)), s.1.1.2), s.1.2), s.2)
abbrev WS.w_st_horizon (s : WS) (x : Int64) : WS := ((((s.1.1.1.1, ((s.1.1.1.2.1.1, x), s.1.1.1.2.2)), s.1.1.2), s.1.2), s.2)
abbrev WS.w_st_headSize (s : WS) (x : Int) : WS := ((((s.1.1.1.1, (s.1.1.1.2.1, x)), s.1.1.2), s.1.2), s.2)
abbrev WS.w_st_parcels (s : WS) (x : Int) : WS := (((s.1.1.1, (((x, s.1.1.2.1.1.2), s.1.1.2.1.2), s.1.1.2.2)), s.1.2), s.2)
abbrev WS.w_st_scars (s : WS) (x : Int) : WS := (((s.1.1.1, (((s.1.1.2.1.1.1, x), s.1.1.2.1.2), s.1.1.2.2)), s.1.2), s.2)
abbrev WS.w_lr_labels (s : WS) (x : Int) : WS := (((s.1.1.1, ((s.1.1.2.1.1, (x, s.1.1.2.1.2.2)), s.1.1.2.2)), s.1.2), s.2)
abbrev WS.w_lr_length (s : WS) (x : Int) : WS := (((s.1.1.1, ((s.1.1.2.1.1, (s.1.1.2.1.2.1, x)), s.1.1.2.2)), s.1.2), s.2)
abbrev WS.w_lr_faultCode (s : WS) (x : Int) : WS := (((s.1.1.1, (s.1.1.2.1, ((x, s.1.1.2.2.1.2), s.1.1.2.2.2))), s.1.2), s.2)
abbrev WS.w_lr_faultPlace (s : WS) (x : Int) : WS := (((s.1.1.1, (s.1.1.2.1, ((s.1.1.2.2.1.1, x), s.1.1.2.2.2))), s.1.2), s.2)
abbrev WS.w_lr_nameAt (s : WS) (x : Int → Int) : WS := (((s.1.1.1, (s.1.1.2.1, (s.1.1.2.2.1, x))), s.1.2), s.2)
abbrev WS.w_lr_signAt (s : WS) (x : Int → Int) : WS := ((s.1.1, ((((x, s.1.2.1.1.1.2), s.1.2.1.1.2), s.1.2.1.2), s.1.2.2)), s.2)
abbrev WS.w_lr_valueEnd (s : WS) (x : Int → Int) : WS := ((s.1.1, ((((s.1.2.1.1.1.1, x), s.1.2.1.1.2), s.1.2.1.2), s.1.2.2)), s.2)
abbrev WS.w_lr_letters (s : WS) (x : Int → Int) : WS := ((s.1.1, (((s.1.2.1.1.1, (x, s.1.2.1.1.2.2)), s.1.2.1.2), s.1.2.2)), s.2)
abbrev WS.w_pg_size (s : WS) (x : Int) : WS := ((s.1.1, (((s.1.2.1.1.1, (s.1.2.1.1.2.1, x)), s.1.2.1.2), s.1.2.2)), s.2)
abbrev WS.w_pg_orders (s : WS) (x : Int → Int) : WS := ((s.1.1, ((s.1.2.1.1, ((x, s.1.2.1.2.1.2), s.1.2.1.2.2)), s.1.2.2)), s.2)
abbrev WS.w_qr_faultCode (s : WS) (x : Int) : WS := ((s.1.1, ((s.1.2.1.1, ((s.1.2.1.2.1.1, x), s.1.2.1.2.2)), s.1.2.2)), s.2)
abbrev WS.w_qr_faultPlace (s : WS) (x : Int) : WS := ((s.1.1, ((s.1.2.1.1, (s.1.2.1.2.1, x)), s.1.2.2)), s.2)
abbrev WS.w_qr_clashPlace (s : WS) (x : Int) : WS := ((s.1.1, (s.1.2.1, (((x, s.1.2.2.1.1.2), s.1.2.2.1.2), s.1.2.2.2))), s.2)
abbrev WS.w_qr_naming (s : WS) (x : Int) : WS := ((s.1.1, (s.1.2.1, (((s.1.2.2.1.1.1, x), s.1.2.2.1.2), s.1.2.2.2))), s.2)
abbrev WS.w_lx_kind (s : WS) (x : Int) : WS := ((s.1.1, (s.1.2.1, ((s.1.2.2.1.1, x), s.1.2.2.2))), s.2)
abbrev WS.w_lx_at (s : WS) (x : Int) : WS := ((s.1.1, (s.1.2.1, (s.1.2.2.1, ((x, s.1.2.2.2.1.2), s.1.2.2.2.2)))), s.2)
abbrev WS.w_lx_behind (s : WS) (x : Int) : WS := ((s.1.1, (s.1.2.1, (s.1.2.2.1, ((s.1.2.2.2.1.1, x), s.1.2.2.2.2)))), s.2)
abbrev WS.w_lx_number (s : WS) (x : Int64) : WS := ((s.1.1, (s.1.2.1, (s.1.2.2.1, (s.1.2.2.2.1, x)))), s.2)
abbrev WS.w_gr_nameCount (s : WS) (x : Int) : WS := (s.1, (((((x, s.2.1.1.1.1.2), s.2.1.1.1.2), s.2.1.1.2), s.2.1.2), s.2.2))
abbrev WS.w_gr_size (s : WS) (x : Int) : WS := (s.1, (((((s.2.1.1.1.1.1, x), s.2.1.1.1.2), s.2.1.1.2), s.2.1.2), s.2.2))
abbrev WS.w_gr_labels (s : WS) (x : Int → Int) : WS := (s.1, ((((s.2.1.1.1.1, (x, s.2.1.1.1.2.2)), s.2.1.1.2), s.2.1.2), s.2.2))
abbrev WS.w_gr_order (s : WS) (x : Int → Int) : WS := (s.1, ((((s.2.1.1.1.1, (s.2.1.1.1.2.1, x)), s.2.1.1.2), s.2.1.2), s.2.2))
abbrev WS.w_gr_groupOf (s : WS) (x : Int → Int) : WS := (s.1, (((s.2.1.1.1, ((x, s.2.1.1.2.1.2), s.2.1.1.2.2)), s.2.1.2), s.2.2))
abbrev WS.w_gr_leaders (s : WS) (x : Int → Int) : WS := (s.1, (((s.2.1.1.1, ((s.2.1.1.2.1.1, x), s.2.1.1.2.2)), s.2.1.2), s.2.2))
abbrev WS.w_ev_height (s : WS) (x : Int) : WS := (s.1, (((s.2.1.1.1, (s.2.1.1.2.1, x)), s.2.1.2), s.2.2))
abbrev WS.w_ev_from (s : WS) (x : Int64) : WS := (s.1, ((s.2.1.1, (((x, s.2.1.2.1.1.2), s.2.1.2.1.2), s.2.1.2.2)), s.2.2))
abbrev WS.w_ev_width (s : WS) (x : Int64) : WS := (s.1, ((s.2.1.1, (((s.2.1.2.1.1.1, x), s.2.1.2.1.2), s.2.1.2.2)), s.2.2))
abbrev WS.w_ev_windows (s : WS) (x : Int) : WS := (s.1, ((s.2.1.1, ((s.2.1.2.1.1, x), s.2.1.2.2)), s.2.2))
abbrev WS.w_ev_stack (s : WS) (x : Int → Nat) : WS := (s.1, ((s.2.1.1, (s.2.1.2.1, ((x, s.2.1.2.2.1.2), s.2.1.2.2.2))), s.2.2))
abbrev WS.w_ev_moments (s : WS) (x : Int → Int64) : WS := (s.1, ((s.2.1.1, (s.2.1.2.1, ((s.2.1.2.2.1.1, x), s.2.1.2.2.2))), s.2.2))
abbrev WS.w_se_letters (s : WS) (x : Nat → Int → Int) : WS := (s.1, ((s.2.1.1, (s.2.1.2.1, (s.2.1.2.2.1, x))), s.2.2))
abbrev WS.w_se_starts (s : WS) (x : Nat → Int → Int) : WS := (s.1, (s.2.1, ((((x, s.2.2.1.1.1.2), s.2.2.1.1.2), s.2.2.1.2), s.2.2.2)))
abbrev WS.w_se_signs (s : WS) (x : Nat → Int → Int) : WS := (s.1, (s.2.1, ((((s.2.2.1.1.1.1, x), s.2.2.1.1.2), s.2.2.1.2), s.2.2.2)))
abbrev WS.w_se_ends (s : WS) (x : Nat → Int → Int) : WS := (s.1, (s.2.1, (((s.2.2.1.1.1, (x, s.2.2.1.1.2.2)), s.2.2.1.2), s.2.2.2)))
abbrev WS.w_pt_times (s : WS) (x : Nat → Int → Int64) : WS := (s.1, (s.2.1, (((s.2.2.1.1.1, (s.2.2.1.1.2.1, x)), s.2.2.1.2), s.2.2.2)))
abbrev WS.w_pt_values (s : WS) (x : Nat → Int → Int64) : WS := (s.1, (s.2.1, ((s.2.2.1.1, ((x, s.2.2.1.2.1.2), s.2.2.1.2.2)), s.2.2.2)))
abbrev WS.w_pt_size (s : WS) (x : Nat → Int) : WS := (s.1, (s.2.1, ((s.2.2.1.1, ((s.2.2.1.2.1.1, x), s.2.2.1.2.2)), s.2.2.2)))
abbrev WS.w_pt_packed (s : WS) (x : Nat → Int) : WS := (s.1, (s.2.1, ((s.2.2.1.1, (s.2.2.1.2.1, x)), s.2.2.2)))
abbrev WS.w_pt_lastTime (s : WS) (x : Nat → Int64) : WS := (s.1, (s.2.1, (s.2.2.1, (((x, s.2.2.2.1.1.2), s.2.2.2.1.2), s.2.2.2.2))))
abbrev WS.w_gd_numbers (s : WS) (x : Nat → Int → Int64) : WS := (s.1, (s.2.1, (s.2.2.1, (((s.2.2.2.1.1.1, x), s.2.2.2.1.2), s.2.2.2.2))))
abbrev WS.w_gd_there (s : WS) (x : Nat → Int → Int) : WS := (s.1, (s.2.1, (s.2.2.1, ((s.2.2.2.1.1, x), s.2.2.2.2))))
abbrev WS.w_gd_lines (s : WS) (x : Nat → Int) : WS := (s.1, (s.2.1, (s.2.2.1, (s.2.2.2.1, ((x, s.2.2.2.2.1.2), s.2.2.2.2.2)))))
abbrev WS.w_gd_windows (s : WS) (x : Nat → Int) : WS := (s.1, (s.2.1, (s.2.2.1, (s.2.2.2.1, ((s.2.2.2.2.1.1, x), s.2.2.2.2.2)))))
abbrev WS.w_gd_named (s : WS) (x : Nat → Int) : WS := (s.1, (s.2.1, (s.2.2.1, (s.2.2.2.1, (s.2.2.2.2.1, x)))))

def serW (D : jd_T) (A : AW) (c : CW) (S : WS) (i : Nat) : List sg_A := [ob D (A.us i 0) 9 [.ref (A.us i 1), .ref (A.us i 2), .ref (A.us i 3), .ref (A.us i 4), .ref (A.us i 5)], ai D 1 (A.us i 1) (c.ln i) (S.se_letters i), ai D 0 (A.us i 2) (c.lm i) (S.se_starts i), ai D 0 (A.us i 3) (c.lm i) (S.se_signs i), ai D 0 (A.us i 4) (c.lm i) (S.se_ends i), ob D (A.us i 5) 6 [.ref (A.us i 6), .ref (A.us i 7), .int (ii (S.pt_size i)), .int (ii (S.pt_packed i)), .long (S.pt_lastTime i)], al D 2 (A.us i 6) (c.pc i) (S.pt_times i), al D 2 (A.us i 7) (c.pv i) (S.pt_values i)]
def grdW (D : jd_T) (g : Nat → Nat) (A : AW) (c : CW) (S : WS) (j : Nat) : List sg_A := [ob D (g (19 + j)) 2 [.ref (A.gn j), .ref (A.gt j), .int (ii (S.gd_lines j)), .int (ii (S.gd_windows j)), .int (ii (S.gd_named j))], al D 2 (A.gn j) (c.gc j) (S.gd_numbers j), ai D 3 (A.gt j) (c.gd j) (S.gd_there j)]
def wtL (D : jd_T) (g : Nat → Nat) (A : AW) (c : CW) (S : WS) : List sg_A := [ob D (g 0) 0 [.ref (g 1), .ref (g 2), .ref (g 4), .ref (g 9), .ref (g 10), .ref (g 12), .ref (g 17), .int (ii S.wt_faultCode), .int (ii S.wt_faultPlace), .int (ii S.wt_hasTable)],
  ob D (g 1) 11 [.ref A.ta, .int (ii S.tp_size)],
  ai D 1 A.ta c.tc S.tp_bytes,
  ob D (g 2) 10 [.ref (g 3), .int (ii (c.N : Int)), .long S.st_horizon, .int (ii S.st_headSize), .int (ii S.st_parcels), .int (ii S.st_scars)],
  aq D 4 (g 3) 256 (fun k => if 0 ≤ k ∧ k < (c.N : Int) then .ref (A.us k.toNat 0) else .null),
  sg_big (fun i => sg_l (serW D A c S i)) c.N,
  ob D (g 4) 4 [.ref (g 5), .ref (g 6), .ref (g 7), .int (ii S.lr_labels), .ref (g 8), .int (ii S.lr_length), .int (ii S.lr_faultCode), .int (ii S.lr_faultPlace)],
  ai D 0 (g 5) 6 S.lr_nameAt,
  ai D 0 (g 6) 6 S.lr_signAt,
  ai D 0 (g 7) 6 S.lr_valueEnd,
  ai D 1 (g 8) 300 S.lr_letters,
  ob D (g 9) 7 [.ref A.oa, .int (ii S.pg_size)],
  ai D 0 A.oa c.oc S.pg_orders,
  ob D (g 10) 8 [.ref (g 1), .ref (g 11), .ref (g 9), .int (ii S.qr_faultCode), .int (ii S.qr_faultPlace), .int (ii S.qr_clashPlace), .int (ii S.qr_naming)],
  ob D (g 11) 5 [.ref (g 1), .int (ii S.lx_kind), .int (ii S.lx_at), .int (ii S.lx_behind), .long S.lx_number],
  ob D (g 12) 3 [.ref (g 1), .ref (g 2), .ref (g 9), .int (ii S.gr_nameCount), .int (ii S.gr_size), .ref (g 13), .ref (g 14), .ref (g 15), .ref (g 16)],
  ai D 0 (g 13) 1536 S.gr_labels,
  ai D 0 (g 14) 256 S.gr_order,
  ai D 0 (g 15) 256 S.gr_groupOf,
  ai D 0 (g 16) 256 S.gr_leaders,
  ob D (g 17) 1 [.ref (g 1), .ref (g 2), .ref (g 9), .ref (g 12), .ref (g 18), .int (ii S.ev_height), .ref A.ma, .long S.ev_from, .long S.ev_width, .int (ii S.ev_windows)],
  aq D 5 (g 18) 19 (fun k => .ref (g (19 + S.ev_stack k))),
  al D 2 A.ma c.mo S.ev_moments,
  sg_big (fun j => sg_l (grdW D g A c S j)) 19]
theorem grd_ne {D : jd_T} {g : Nat → Nat} {A : AW} {c : CW} {S : WS} {h : sg_F} (hl : sg_l (wtL D g A c S) h) (i j : Nat) (hi : i < 19) (hj : j < 19) (hne : i ≠ j) : g (19 + i) ≠ g (19 + j) := by
  obtain ⟨f, g1, d, e, p, -⟩ := sg_pull _ 23 _ h (show (wtL D g A c S)[23]? = some (sg_big (fun j => sg_l (grdW D g A c S j)) 19) from rfl) hl
  refine sg_big_ne (ad := fun j => g (19 + j)) (fun i f hf => ?_) p i j hi hj hne
  obtain ⟨f1, f2, -, e1, ⟨cell, r, h1, -⟩, -⟩ := hf
  rw [e1, h1]
  intro z
  have := (sg_un_none.mp z).1
  rw [sg_1_at] at this; cases this
def aC {α : Type} (f : Int → α) (sp dp n : Int) : Int → α := fun j => if dp ≤ j ∧ j < dp + n then f (sp + (j - dp)) else f j
theorem stk_set (D : jd_T) (g : Nat → Nat) (P : Int → Nat) (i : Int) (v : Nat) : aq D 5 (g 18) 19 (fun j => if j = i then .ref (g (19 + v)) else (fun k => Value.ref (g (19 + P k))) j) = aq D 5 (g 18) 19 (fun k => .ref (g (19 + aU P i v k))) := by
  congr 1; funext j; simp only [aU]; split <;> rfl
theorem idx_lt {i : Int} {N : Nat} (h0 : 0 ≤ i) (h1 : i < (N : Int)) : i.toNat < N := by omega
set_option maxHeartbeats 4000000 in
set_option maxRecDepth 100000 in
theorem r_St_find (l : Launch) (D : jd_T) (g : Nat → Nat) (A : AW) (c : CW) (S : WS) (v1 : Int) (hy : ((0 : Int) ≤ v1 ∧ v1 < (c.N : Int)) ∧ c.N ≤ 256) : jc_C l D y_St_find b_St_find 2 (some (.object "WindowTables$Series")) { frames := 0, cells := 0, slots := 0, locals := 0 } [.ref (g 2), .int (ii v1)] (wtL D g A c S) (fun _ : Unit => (.returned (some (.ref (A.us v1.toNat 0))), True, wtL D g A c S)) := by
  obtain ⟨⟨h0, h1⟩, h2⟩ := hy
  refine jc_of rfl (Nat.le_of_ble_eq_true rfl) ?_
  intro X hl hR hN ok hnm fin
  subst hl
  show jw X 0 0 (wtL D g A c S) [(0, .ref (g 2)), (1, .int (ii v1))] 0 []
  refine jr_iload_n ok 1 d_St_find_0 rfl rfl ?_
  refine jr_if_lt 21 ok ⟨by omega, by omega⟩ d_St_find_1 (by decide) (fun c1 => by omega) (fun c1 => ?_)
  refine jr_iload_n ok 1 d_St_find_4 rfl rfl ?_
  refine jr_aload_n ok 0 d_St_find_5 rfl rfl ?_
  refine jr_get (v := .int (ii (c.N : Int))) ok 3 f_St_17 rfl rfl d_St_find_6 ?_
  refine jr_icmp_ge 21 ok ⟨by omega, by omega⟩ ⟨by omega, by omega⟩ d_St_find_9 (by decide) (fun c1 => by omega) (fun c1 => ?_)
  refine jr_aload_n ok 0 d_St_find_12 rfl rfl ?_
  refine jr_get (v := .ref (g 3)) ok 3 f_St_11 rfl rfl d_St_find_13 ?_
  refine jr_iload_n ok 1 d_St_find_16 rfl rfl ?_
  refine jr_aald ok 4 rfl rfl rfl h0 (by omega) d_St_find_17 ?_
  rw [if_pos ⟨h0, h1⟩]
  refine jr_goto 22 ok d_St_find_18 (by decide) ?_
  exact jr_aret ok (Or.inr ⟨_, rfl⟩) fin (Nat.le_refl _) (Nat.le_refl _) () rfl trivial sg_same d_St_find_22
