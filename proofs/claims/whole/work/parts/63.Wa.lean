/-! tokens by the place where they are looked for -/
set_option maxRecDepth 100000 in
def zq_tK (T : Int → Int) (n p : Int) : Int := (zq_tok T n p (ll 0)).1
set_option maxRecDepth 100000 in
def zq_tA (T : Int → Int) (n p : Int) : Int := zq_skp T n p
set_option maxRecDepth 100000 in
def zq_tB (T : Int → Int) (n p : Int) : Int := (zq_tok T n p (ll 0)).2.1
set_option maxRecDepth 100000 in
def zq_tX (T : Int → Int) (n p : Int) : Int64 := (zq_tok T n p (ll 0)).2.2
set_option maxRecDepth 100000 in
theorem zq_tokA_x (T : Int → Int) (n a : Int) (x y : Int64) : (zq_tokA T n a x).1 = (zq_tokA T n a y).1 ∧ (zq_tokA T n a x).2.1 = (zq_tokA T n a y).2.1 ∧ ((zq_tokA T n a x).1 = 302 → (zq_tokA T n a x).2.2 = (zq_tokA T n a y).2.2) := by
  by_cases c1 : T a = -1
  · rw [zq_tokA_fin c1, zq_tokA_fin c1]; simp
  by_cases c2 : zq_dgB (T a) = true
  · rw [zq_tokA_dig c1 c2, zq_tokA_dig c1 c2]; simp
  simp at c2
  by_cases c3 : zq_nmB (T a) = true
  · rw [zq_tokA_nam c1 c2 c3, zq_tokA_nam c1 c2 c3]; simp
  simp at c3
  by_cases c4 : T a = 34
  · rw [zq_tokA_quo c4, zq_tokA_quo c4]; simp only; refine ⟨trivial, trivial, ?_⟩; split <;> omega
  · rw [zq_tokA_sig c1 c2 c3 c4, zq_tokA_sig c1 c2 c3 c4]; simp only; refine ⟨trivial, trivial, ?_⟩
    unfold zq_sgK; intro h; exfalso; split at h
    · split at h
      · omega
      · split at h <;> omega
    · split at h
      · split at h <;> omega
      · split at h <;> omega
set_option maxRecDepth 100000 in
theorem zq_tok_x (T : Int → Int) (n p : Int) (x : Int64) : (zq_tok T n p x).1 = zq_tK T n p ∧ (zq_tok T n p x).2.1 = zq_tB T n p ∧ (zq_tK T n p = 302 → (zq_tok T n p x).2.2 = zq_tX T n p) := by
  have := zq_tokA_x T n (zq_skp T n p) x (ll 0)
  refine ⟨this.1, this.2.1, fun h => this.2.2 ?_⟩
  rw [this.1]; exact h
set_option maxRecDepth 100000 in
theorem zq_tA_ge (T : Int → Int) (n p : Int) : p ≤ zq_tA T n p := (zq_rfn_le _ n p).1
set_option maxRecDepth 100000 in
theorem zq_tA_le {T : Int → Int} {n p : Int} (h : p ≤ n) : zq_tA T n p ≤ n := by
  have := (zq_rfn_le (fun j => T j == 32) n p).2
  have e : zq_tA T n p = zq_rfn (fun j => T j == 32) n p := rfl
  omega
set_option maxRecDepth 100000 in
/-- what a token's place and end are -/
theorem zq_tok_R {T : Int → Int} {n : Int} (hT : zq_tpT T n) {p : Int} (hp : 0 ≤ p) (hn : p ≤ n) :
    (zq_tK T n p = 301 → zq_tB T n p = zq_tA T n p ∧ zq_tA T n p = n) ∧ (zq_tK T n p ≠ 301 → zq_tA T n p < n ∧ zq_tA T n p + 1 ≤ zq_tB T n p ∧ (zq_tK T n p ≠ 300 → zq_tB T n p ≤ n)) ∧ zq_tB T n p ≤ n + 1 ∧ (zq_tK T n p = 304 → zq_tA T n p + 2 ≤ zq_tB T n p) := by
  have h1 := zq_tA_ge T n p
  have h2 := zq_tA_le (T := T) hn
  have e1 : zq_tK T n p = (zq_tokA T n (zq_tA T n p) (ll 0)).1 := rfl
  have e2 : zq_tB T n p = (zq_tokA T n (zq_tA T n p) (ll 0)).2.1 := rfl
  generalize zq_tA T n p = a at *
  by_cases c1 : T a = -1
  · rw [zq_tokA_fin c1] at e1 e2
    have := (hT.2 a).mp c1
    rw [e1, e2]; simp; omega
  have c0 := zq_T_in hT c1
  by_cases c2 : zq_dgB (T a) = true
  · rw [zq_tokA_dig c1 c2] at e1 e2
    have g := zq_nr_ge T (n - a).toNat a (ll 0)
    have gk : zq_tK T n p = (zq_nr T (n - a).toNat a (ll 0)).1 := e1
    have gb : zq_tB T n p = (zq_nr T (n - a).toNat a (ll 0)).2.1 := e2
    have g1 : a + 1 ≤ (zq_nr T (n - a).toNat a (ll 0)).2.1 ∨ zq_tK T n p = 300 ∧ a + 1 ≤ (zq_nr T (n - a).toNat a (ll 0)).2.1 := by
      left
      have z : (ll 0).toInt ≤ ((ll 9223372036854775807 - ll (T a - 48)) / ll 10).toInt := by
        have hd := (zq_dgB_iff _).mp c2
        exact (zq_num_ok (x := ll 0) (by omega)).mpr (Or.inl (by decide))
      have := zq_nrn_go (x := ll 0) c0.2 c2 z
      have e : zq_nr T (n - a).toNat a (ll 0) = zq_nrn T n (a + 1) (ll 0 * ll 10 + ll (T a - 48)) := this
      rw [e]
      exact (zq_nr_ge T (n - (a + 1)).toNat (a + 1) _).1
    rw [gb, gk]
    refine ⟨fun h => ?_, fun _ => ⟨c0.2, by omega, fun _ => by omega⟩, by omega, fun h => ?_⟩
    · have := g.2.2; omega
    · have := g.2.2; omega
  simp at c2
  by_cases c3 : zq_nmB (T a) = true
  · rw [zq_tokA_nam c1 c2 c3] at e1 e2
    have g := zq_rfn_le (fun j => zq_nmB (T j)) n a
    have g2 : a + 1 ≤ zq_nmE T n a := by
      unfold zq_nmE; rw [zq_rfn_step c0.2 c3]; exact (zq_rfn_le _ n (a + 1)).1
    have gb : zq_tB T n p = zq_nmE T n a := e2
    have e3 : zq_nmE T n a = zq_rfn (fun j => zq_nmB (T j)) n a := rfl
    have gk : zq_tK T n p = 303 := e1
    rw [gk, gb]
    refine ⟨fun h => by omega, fun _ => ⟨c0.2, g2, fun _ => by omega⟩, by omega, fun h => by omega⟩
  simp at c3
  by_cases c4 : T a = 34
  · rw [zq_tokA_quo c4] at e1 e2
    have g := zq_rfn_le (fun j => zq_qtB (T j)) n (a + 1)
    have e3 : zq_qtE T n (a + 1) = zq_rfn (fun j => zq_qtB (T j)) n (a + 1) := rfl
    have gb : zq_tB T n p = zq_qtE T n (a + 1) + 1 := e2
    have gk : zq_tK T n p = if T (zq_qtE T n (a + 1)) = 34 then 304 else 300 := e1
    rw [gb, gk]
    by_cases c5 : T (zq_qtE T n (a + 1)) = 34
    · rw [if_pos c5]
      have := zq_T_in hT (i := zq_qtE T n (a + 1)) (by rw [c5]; omega)
      exact ⟨fun h => by omega, fun _ => ⟨c0.2, by omega, fun _ => by omega⟩, by omega, fun _ => by omega⟩
    · rw [if_neg c5]
      exact ⟨fun h => by omega, fun _ => ⟨c0.2, by omega, fun h => by omega⟩, by omega, fun h => by omega⟩
  · rw [zq_tokA_sig c1 c2 c3 c4] at e1 e2
    have gk : zq_tK T n p = zq_sgK (T a) (T (a + 1)) := e1
    have gb : zq_tB T n p = a + (if zq_sgK (T a) (T (a + 1)) = 305 ∨ zq_sgK (T a) (T (a + 1)) = 306 ∨ zq_sgK (T a) (T (a + 1)) = 307 then 2 else 1) := e2
    have hs : ¬ zq_sgK (T a) (T (a + 1)) = 301 ∧ ¬ zq_sgK (T a) (T (a + 1)) = 304 := by
      unfold zq_sgK
      constructor
      · intro h; split at h
        · split at h
          · omega
          · split at h <;> omega
        · split at h
          · split at h <;> omega
          · split at h <;> omega
      · intro h; split at h
        · split at h
          · omega
          · split at h <;> omega
        · split at h
          · split at h <;> omega
          · split at h <;> omega
    have h2 : zq_sgK (T a) (T (a + 1)) = 305 ∨ zq_sgK (T a) (T (a + 1)) = 306 ∨ zq_sgK (T a) (T (a + 1)) = 307 → T (a + 1) ≠ -1 := by
      intro h e
      rw [e] at h
      unfold zq_sgK at h
      split at h
      · rw [if_neg (by decide), if_neg (by decide)] at h; omega
      · split at h
        · rw [if_neg (by decide)] at h; omega
        · split at h <;> omega
    rw [gk, gb]
    refine ⟨fun h => absurd h hs.1, fun _ => ⟨c0.2, by split <;> omega, fun _ => ?_⟩, ?_, fun h => absurd h hs.2⟩
    · split
      · rename_i h; have := zq_T_in hT (h2 h); omega
      · omega
    · split <;> omega
set_option maxRecDepth 100000 in
theorem zq_tK_R {T : Int → Int} {n : Int} (hT : zq_tpT T n) (p : Int) : -1 ≤ zq_tK T n p ∧ zq_tK T n p ≤ 400 := zq_tokA_kind hT
/-! the question, read: what both sides do -/
set_option maxRecDepth 100000 in
abbrev zq_PE : Type := Int × Int
set_option maxRecDepth 100000 in
abbrev zq_NM : Type := Int × Int
set_option maxRecDepth 100000 in
abbrev zq_MT : Type := (Int × Int) × Int × (Int × Int)
set_option maxRecDepth 100000 in
abbrev zq_Od : Type := Int × Int64 × Int × Int × List zq_NM × List zq_MT
set_option maxRecDepth 100000 in
abbrev zq_PR (α : Type) : Type := Except zq_PE α
set_option maxRecDepth 100000 in
def zq_pbd {α β : Type} (x : zq_PR α) (f : α → zq_PR β) : zq_PR β := match x with | .error e => .error e | .ok a => f a
section
variable (T : Int → Int) (n : Int)
set_option maxRecDepth 100000 in
def zq_pAdv (p : Int) : zq_PR Int := if zq_tK T n (zq_tB T n p) = 300 then .error (1, zq_tA T n (zq_tB T n p)) else .ok (zq_tB T n p)
set_option maxRecDepth 100000 in
def zq_pTake (k : Int) (p : Int) : zq_PR Int := if zq_tK T n p = k then zq_pAdv T n p else .error (2, zq_tA T n p)
set_option maxRecDepth 100000 in
def zq_nmx (x : zq_NM) : List Int := zq_sl T x.1 (x.1 + x.2)
set_option maxRecDepth 100000 in
def zq_pNames : Nat → List zq_NM → Int → zq_PR (Int × List zq_NM)
  | 0, ns, p => .ok (p, ns)
  | m + 1, ns, p => if zq_tK T n p = 303 then
      (if 6 ≤ ns.length ∨ (ns.any (fun x => zq_nmx T x == zq_nmx T (zq_tA T n p, zq_tB T n p - zq_tA T n p))) = true then .error (4, zq_tA T n p)
      else zq_pbd (zq_pAdv T n p) (fun q => if zq_tK T n q = 44 then zq_pbd (zq_pAdv T n q) (fun q2 => zq_pNames m (ns ++ [(zq_tA T n p, zq_tB T n p - zq_tA T n p)]) q2) else .ok (q, ns ++ [(zq_tA T n p, zq_tB T n p - zq_tA T n p)])))
    else .error (2, zq_tA T n p)
set_option maxRecDepth 100000 in
def zq_isMS (k : Int) : Bool := decide (k = 61 ∨ k = 305 ∨ k = 306 ∨ k = 307)
set_option maxRecDepth 100000 in
def zq_pMatch (p : Int) : zq_PR (Int × zq_MT) := zq_pbd (zq_pTake T n 303 p) (fun q => if zq_isMS (zq_tK T n q) then zq_pbd (zq_pAdv T n q) (fun r => zq_pbd (zq_pTake T n 304 r) (fun s => .ok (s, ((zq_tA T n p, zq_tB T n p - zq_tA T n p), zq_tK T n q, (zq_tA T n r + 1, zq_tB T n r - 1 - (zq_tA T n r + 1)))))) else .error (2, zq_tA T n q))
set_option maxRecDepth 100000 in
def zq_pMatches : Nat → List zq_MT → Int → zq_PR (Int × List zq_MT)
  | 0, ms, p => .ok (p, ms)
  | m + 1, ms, p => zq_pbd (zq_pMatch T n p) (fun y => if zq_tK T n y.1 = 44 then zq_pbd (zq_pAdv T n y.1) (fun q => zq_pMatches m (ms ++ [y.2]) q) else .ok (y.1, ms ++ [y.2]))
set_option maxRecDepth 100000 in
/-- the name of a function -/
def zq_wrd (p : Int) : List Int := if zq_tK T n p = 303 then zq_sl T (zq_tA T n p) (zq_tB T n p) else []
set_option maxRecDepth 100000 in
def zq_fnK (p : Int) : Int := if zq_wrd T n p = [115, 117, 109] then 1 else if zq_wrd T n p = [99, 111, 117, 110, 116] then 2 else if zq_wrd T n p = [108, 101, 97, 115, 116] then 3 else if zq_wrd T n p = [109, 111, 115, 116] then 4 else if zq_wrd T n p = [102, 105, 114, 115, 116] then 5 else if zq_wrd T n p = [108, 97, 116, 101, 115, 116] then 6 else if zq_wrd T n p = [103, 114, 111, 119, 116, 104] then 7 else -1
set_option maxRecDepth 100000 in
def zq_pBy (p : Int) : zq_PR (Int × List zq_NM) := if zq_wrd T n p = [98, 121] then zq_pbd (zq_pAdv T n p) (fun q => zq_pbd (zq_pTake T n 40 q) (fun q => zq_pbd (zq_pNames T n n.toNat [] q) (fun y => zq_pbd (zq_pTake T n 41 y.1) (fun q => .ok (q, y.2))))) else .ok (p, [])
set_option maxRecDepth 100000 in
def zq_pSel (p : Int) : zq_PR (Int × Int × List zq_MT) := zq_pbd (zq_pTake T n 40 p) (fun q0 => zq_pbd (zq_pTake T n 123 q0) (fun q1 => zq_pbd (if zq_tK T n q1 = 125 then .ok (q1, []) else zq_pMatches T n n.toNat [] q1) (fun y => zq_pbd (zq_pTake T n 125 y.1) (fun q => zq_pbd (zq_pTake T n 41 q) (fun q => .ok (q, zq_tB T n q0, y.2))))))
set_option maxRecDepth 100000 in
def zq_pFunc (k : Int) (p : Int) : zq_PR (Int × List zq_Od) := zq_pbd (zq_pAdv T n p) (fun q => zq_pbd (zq_pBy T n q) (fun y => zq_pbd (zq_pSel T n y.1) (fun z => .ok (z.1, [((310 : Int), ll 0, k, z.2.1, y.2, z.2.2)]))))
set_option maxRecDepth 100000 in
abbrev zq_PF : Type := Int → Int → zq_PR (Int × List zq_Od)
set_option maxRecDepth 100000 in
def zq_pOpen (oS oF : zq_PF) (k d p : Int) : zq_PR (Int × List zq_Od) := if d < 8 then zq_pbd (zq_pAdv T n p) (fun q => if k = 40 then zq_pbd (oS (d + 1) q) (fun y => zq_pbd (zq_pTake T n 41 y.1) (fun q => .ok (q, y.2))) else zq_pbd (oF (d + 1) q) (fun y => .ok (y.1, y.2 ++ [((311 : Int), ll 0, 0, 0, [], [])]))) else .error (3, zq_tA T n p)
set_option maxRecDepth 100000 in
def zq_pFac (oS oF : zq_PF) (d p : Int) : zq_PR (Int × List zq_Od) := if zq_tK T n p = 302 then zq_pbd (zq_pAdv T n p) (fun q => .ok (q, [((302 : Int), zq_tX T n p, 0, 0, [], [])])) else if zq_tK T n p = 40 ∨ zq_tK T n p = 45 then zq_pOpen T n oS oF (zq_tK T n p) d p else if zq_fnK T n p = -1 then .error (2, zq_tA T n p) else zq_pFunc T n (zq_fnK T n p) p
set_option maxRecDepth 100000 in
def zq_isPS (k : Int) : Bool := decide (k = 42 ∨ k = 47 ∨ k = 37)
set_option maxRecDepth 100000 in
def zq_isSS (k : Int) : Bool := decide (k = 43 ∨ k = 45)
set_option maxRecDepth 100000 in
def zq_pLoop (f : zq_PF) (sg : Int → Bool) (d : Int) : Nat → List zq_Od → Int → zq_PR (Int × List zq_Od)
  | 0, os, p => .ok (p, os)
  | m + 1, os, p => if sg (zq_tK T n p) then zq_pbd (zq_pAdv T n p) (fun q => zq_pbd (f d q) (fun y => zq_pLoop f sg d m (os ++ y.2 ++ [(zq_tK T n p, ll 0, zq_tA T n p, 0, [], [])]) y.1)) else .ok (p, os)
set_option maxRecDepth 100000 in
def zq_pProd (oS oF : zq_PF) (d p : Int) : zq_PR (Int × List zq_Od) := zq_pbd (zq_pFac T n oS oF d p) (fun y => zq_pLoop T n (zq_pFac T n oS oF) zq_isPS d n.toNat y.2 y.1)
set_option maxRecDepth 100000 in
def zq_pSum (oS oF : zq_PF) (d p : Int) : zq_PR (Int × List zq_Od) := zq_pbd (zq_pProd T n oS oF d p) (fun y => zq_pLoop T n (zq_pProd T n oS oF) zq_isSS d n.toNat y.2 y.1)
set_option maxRecDepth 100000 in
def zq_pO : Nat → zq_PF × zq_PF
  | 0 => (fun _ _ => .error (0, 0), fun _ _ => .error (0, 0))
  | m + 1 => (zq_pSum T n (zq_pO m).1 (zq_pO m).2, zq_pFac T n (zq_pO m).1 (zq_pO m).2)
set_option maxRecDepth 100000 in
def zq_pAll : zq_PR (List zq_Od) := if zq_tK T n 0 = 300 then .error (1, zq_tA T n 0) else zq_pbd ((zq_pO T n 10).1 0 0) (fun y => if zq_tK T n y.1 = 301 then .ok y.2 else .error (2, zq_tA T n y.1))
set_option maxRecDepth 100000 in
/-- the names of the tables on the stack, and the first clash -/
def zq_nstep (s : List (List zq_NM) × Int) (o : zq_Od) : List (List zq_NM) × Int :=
  if o.1 = 302 then ([] :: s.1, s.2) else if o.1 = 310 then (o.2.2.2.2.1 :: s.1, s.2) else if o.1 = 311 then s else
  match s.1 with
  | b :: a :: r => if a = [] then (b :: r, s.2) else if b = [] then (a :: r, s.2) else if s.2 = -1 ∧ a.map (zq_nmx T) ≠ b.map (zq_nmx T) then (a :: r, o.2.2.1) else (a :: r, s.2)
  | _ => s
set_option maxRecDepth 100000 in
def zq_nrun (os : List zq_Od) (s : List (List zq_NM) × Int) : List (List zq_NM) × Int := os.foldl (zq_nstep T) s
end
set_option maxRecDepth 100000 in
/-- orders of the program -/
def zq_encN (ns : List zq_NM) : List Int := ns.flatMap (fun x => [x.1, x.2])
set_option maxRecDepth 100000 in
def zq_encM (ms : List zq_MT) : List Int := ms.flatMap (fun x => [x.1.1, x.1.2, x.2.1, x.2.2.1, x.2.2.2])
set_option maxRecDepth 100000 in
def zq_encO (o : zq_Od) : List Int := if o.1 = 302 then [302, (o.2.1 >>> ((ii 32).toInt64 &&& 63)).toInt, o.2.1.toInt] else if o.1 = 310 then [310, o.2.2.1, (o.2.2.2.2.1.length : Int), (o.2.2.2.2.2.length : Int)] ++ (zq_encN o.2.2.2.2.1 ++ zq_encM o.2.2.2.2.2) else [o.1]
set_option maxRecDepth 100000 in
def zq_encOs (os : List zq_Od) : List Int := os.flatMap zq_encO
set_option maxRecDepth 100000 in
def zq_pw (S : WS) (k a b : Int) (x : Int64) (o : Int → Int) (z fc fp cl : Int) : WS := WS.w_qr_clashPlace (WS.w_qr_faultPlace (WS.w_qr_faultCode (WS.w_pg_size (WS.w_pg_orders (zq_lxs S k a b x) o) z) fc) fp) cl
set_option maxRecDepth 100000 in
def zq_cwo (c : CW) (oc : Int) (bc bs : Nat) : CW := CW.w_oc (CW.w_bs (CW.w_bc c bc) bs) oc
set_option maxRecDepth 100000 in
/-- what the reader of questions may change -/
def zq_FR (c : CW) (S : WS) (c' : CW) (S' : WS) : Prop := (∃ oc bc bs, c' = zq_cwo c oc bc bs) ∧ ∃ k a b x o z fc fp cl, S' = zq_pw S k a b x o z fc fp cl
set_option maxRecDepth 100000 in
theorem zq_FR_refl (c : CW) (S : WS) : zq_FR c S c S := ⟨⟨c.oc, c.bc, c.bs, rfl⟩, ⟨S.lx_kind, S.lx_at, S.lx_behind, S.lx_number, S.pg_orders, S.pg_size, S.qr_faultCode, S.qr_faultPlace, S.qr_clashPlace, rfl⟩⟩
set_option maxRecDepth 100000 in
theorem zq_FR_trans {c c1 c2 : CW} {S S1 S2 : WS} (h1 : zq_FR c S c1 S1) (h2 : zq_FR c1 S1 c2 S2) : zq_FR c S c2 S2 := by
  obtain ⟨⟨oc, bc, bs, rfl⟩, k, a, b, x, o, z, fc, fp, cl, rfl⟩ := h1
  obtain ⟨⟨oc', bc', bs', rfl⟩, k', a', b', x', o', z', fc', fp', cl', rfl⟩ := h2
  exact ⟨⟨oc', bc', bs', rfl⟩, ⟨k', a', b', x', o', z', fc', fp', cl', rfl⟩⟩
set_option maxRecDepth 100000 in
def zq_lq (S : WS) (k a b : Int) (x : Int64) (fc fp : Int) : WS := WS.w_qr_faultPlace (WS.w_qr_faultCode (zq_lxs S k a b x) fc) fp
set_option maxRecDepth 100000 in
def zq_ow (S : WS) (o : Int → Int) (z : Int) : WS := WS.w_pg_size (WS.w_pg_orders S o) z
set_option maxRecDepth 100000 in
theorem zq_FR_lq (c : CW) (S : WS) (k a b : Int) (x : Int64) (fc fp : Int) : zq_FR c S c (zq_lq S k a b x fc fp) := ⟨⟨c.oc, c.bc, c.bs, rfl⟩, ⟨k, a, b, x, S.pg_orders, S.pg_size, fc, fp, S.qr_clashPlace, rfl⟩⟩
set_option maxRecDepth 100000 in
theorem zq_FR_ow {c c' : CW} (S : WS) (o : Int → Int) (z : Int) (h : ∃ oc bc bs, c' = zq_cwo c oc bc bs) : zq_FR c S c' (zq_ow S o z) := ⟨h, ⟨S.lx_kind, S.lx_at, S.lx_behind, S.lx_number, o, z, S.qr_faultCode, S.qr_faultPlace, S.qr_clashPlace, rfl⟩⟩
set_option maxRecDepth 100000 in
theorem zq_FR_cl (c : CW) (S : WS) (z : Int) : zq_FR c S c (WS.w_qr_clashPlace S z) := ⟨⟨c.oc, c.bc, c.bs, rfl⟩, ⟨S.lx_kind, S.lx_at, S.lx_behind, S.lx_number, S.pg_orders, S.pg_size, S.qr_faultCode, S.qr_faultPlace, z, rfl⟩⟩
set_option maxRecDepth 100000 in
def zq_PB (k : Nat) (T : Int → Int) (n : Int) (c : CW) (S : WS) (L : List Int) : Prop := (zq_gdB k c S ∧ c.tc ≤ 20500 ∧ k < 512) ∧ (zq_tpI c S ∧ zq_bt S = T ∧ S.tp_size = n ∧ n ≤ 10240) ∧ (zq_aH S.pg_orders 0 L ∧ S.pg_size = L.length ∧ (L.length : Int) ≤ c.oc)
set_option maxRecDepth 100000 in
theorem zq_PB_lq {k : Nat} {T : Int → Int} {n : Int} {c : CW} {S : WS} {L : List Int} (h : zq_PB k T n c S L) (k' a b : Int) (x : Int64) (fc fp : Int) : zq_PB k T n c (zq_lq S k' a b x fc fp) L := h
set_option maxRecDepth 100000 in
theorem zq_PB_cl {k : Nat} {T : Int → Int} {n : Int} {c : CW} {S : WS} {L : List Int} (h : zq_PB k T n c S L) (z : Int) : zq_PB k T n c (WS.w_qr_clashPlace S z) L := h
set_option maxRecDepth 100000 in
def zq_LV (T : Int → Int) (n : Int) (S : WS) (p : Int) : Prop := (0 ≤ p ∧ p ≤ n ∧ zq_tK T n p ≠ 300) ∧ (S.lx_kind = zq_tK T n p ∧ S.lx_at = zq_tA T n p ∧ S.lx_behind = zq_tB T n p ∧ (zq_tK T n p = 302 → S.lx_number = zq_tX T n p)) ∧ (S.qr_faultCode = 0 ∧ S.qr_faultPlace = 0)
set_option maxRecDepth 100000 in
def zq_DE (n : Int) (S : WS) (e : zq_PE) : Prop := (S.lx_kind = 300 ∧ 0 ≤ S.lx_at ∧ S.lx_at ≤ n) ∧ ((S.qr_faultCode = e.1 ∧ S.qr_faultPlace = e.2 ∧ 1 ≤ e.1 ∧ e.1 ≤ 5) ∨ (S.qr_faultCode = 0 ∧ e = (1, S.lx_at)))
set_option maxRecDepth 100000 in
def zq_QS (T : Int → Int) (n : Int) (S : WS) (s : zq_PR Int) : Prop := match s with | .ok p => zq_LV T n S p | .error e => zq_DE n S e
set_option maxRecDepth 100000 in
theorem zq_QS_ow {T : Int → Int} {n : Int} {S : WS} {s : zq_PR Int} (o : Int → Int) (z : Int) (h : zq_QS T n S s) : zq_QS T n (zq_ow S o z) s := by
  cases s <;> exact h
set_option maxRecDepth 100000 in
theorem zq_QS_cl {T : Int → Int} {n : Int} {S : WS} {s : zq_PR Int} (z : Int) (h : zq_QS T n S s) : zq_QS T n (WS.w_qr_clashPlace S z) s := by
  cases s <;> exact h
set_option maxRecDepth 100000 in
theorem zq_PB_T {k : Nat} {T : Int → Int} {n : Int} {c : CW} {S : WS} {L : List Int} (h : zq_PB k T n c S L) : zq_tpT T n := by
  obtain ⟨-, ⟨h1, h2, h3, h4⟩, -⟩ := h
  rw [← h2, ← h3]; exact zq_bt_T h1
set_option maxRecDepth 100000 in
/-- the lexer goes on -/
theorem zq_w_adv {k : Nat} {T : Int → Int} {n : Int} {c : CW} {S : WS} {L : List Int} (h : zq_PB k T n c S L) {p : Int} (hl : zq_LV T n S p) : ∃ k' b x, s_Lx_advance c S = some ((), zq_lq S k' (zq_tA T n (zq_tB T n p)) b x S.qr_faultCode S.qr_faultPlace) ∧ zq_QS T n (zq_lq S k' (zq_tA T n (zq_tB T n p)) b x S.qr_faultCode S.qr_faultPlace) (zq_pAdv T n p) ∧ zq_tA T n p ≤ zq_tA T n (zq_tB T n p) ∧ (zq_tK T n p ≠ 301 → zq_tA T n p + 1 ≤ zq_tA T n (zq_tB T n p)) := by
  have hT := zq_PB_T h
  obtain ⟨-, ⟨h1, h2, h3, h4⟩, -⟩ := h
  obtain ⟨⟨l1, l2, l3⟩, ⟨l4, l5, l6, l7⟩, l8⟩ := hl
  have R := zq_tok_R hT l1 l2
  have hb : 0 ≤ zq_tB T n p ∧ zq_tB T n p ≤ n ∧ zq_tA T n p ≤ zq_tB T n p ∧ (zq_tK T n p ≠ 301 → zq_tA T n p + 1 ≤ zq_tB T n p) := by
    have := zq_tA_ge T n p
    by_cases c1 : zq_tK T n p = 301
    · have := R.1 c1; exact ⟨by omega, by omega, by omega, fun h => absurd c1 h⟩
    · have := R.2.1 c1; have := this.2.2 l3; exact ⟨by omega, by omega, by omega, fun _ => by omega⟩
  have e := zq_e_advance (c := c) h1 (by rw [l6]; omega) (by rw [l6]; omega)
  have ge := zq_tA_ge T n (zq_tB T n p)
  have q := zq_tok_x T n (zq_tB T n p) S.lx_number
  have ea : zq_adv S = zq_lq S (zq_tK T n (zq_tB T n p)) (zq_tA T n (zq_tB T n p)) (zq_tB T n (zq_tB T n p)) (zq_tok T n (zq_tB T n p) S.lx_number).2.2 S.qr_faultCode S.qr_faultPlace := by
    unfold zq_adv
    rw [h2, h3, l6, q.1, q.2.1]; rfl
  refine ⟨zq_tK T n (zq_tB T n p), zq_tB T n (zq_tB T n p), (zq_tok T n (zq_tB T n p) S.lx_number).2.2, by rw [e, ea], ?_, by omega, fun z => by have := hb.2.2.2 z; omega⟩
  unfold zq_pAdv
  by_cases c2 : zq_tK T n (zq_tB T n p) = 300
  · rw [if_pos c2]
    exact ⟨⟨c2, by show 0 ≤ zq_tA T n (zq_tB T n p); omega, zq_tA_le hb.2.1⟩, Or.inr ⟨l8.1, rfl⟩⟩
  · rw [if_neg c2]
    exact ⟨⟨hb.1, hb.2.1, c2⟩, ⟨rfl, rfl, rfl, q.2.2⟩, l8⟩
set_option maxRecDepth 100000 in
theorem zq_w_refuse {T : Int → Int} {n : Int} {c : CW} {S : WS} {p : Int} (hT : zq_tpT T n) (hl : zq_LV T n S p) {v : Int} (hv : 1 ≤ v ∧ v ≤ 5) : s_QR_refuse c S v = some ((), zq_lq S 300 S.lx_at S.lx_behind S.lx_number v S.lx_at) ∧ zq_DE n (zq_lq S 300 S.lx_at S.lx_behind S.lx_number v S.lx_at) (v, zq_tA T n p) := by
  obtain ⟨⟨l1, l2, l3⟩, ⟨l4, l5, l6, l7⟩, l8⟩ := hl
  have := zq_tA_ge T n p
  have := zq_tA_le (T := T) l2
  have hk := zq_tK_R hT p
  constructor
  · rw [s_QR_refuse, l8.1, if_pos (by decide)]
    show (if w32 S.lx_kind = 300 then _ else _) = _
    rw [l4, zq_w32i (z := zq_tK T n p) (by omega) (by omega), if_neg l3]
    rfl
  · refine ⟨⟨rfl, ?_, ?_⟩, Or.inl ⟨rfl, l5, hv⟩⟩
    · show 0 ≤ S.lx_at; rw [l5]; omega
    · show S.lx_at ≤ n; rw [l5]; omega
set_option maxRecDepth 100000 in
theorem zq_w_refuseD {n : Int} {c : CW} {S : WS} {e : zq_PE} (hd : zq_DE n S e) (hn : n ≤ 10240) (v : Int) : ∃ fc fp, s_QR_refuse c S v = some ((), zq_lq S 300 S.lx_at S.lx_behind S.lx_number fc fp) ∧ zq_DE n (zq_lq S 300 S.lx_at S.lx_behind S.lx_number fc fp) e := by
  obtain ⟨⟨d1, d2, zq_d3⟩, d4⟩ := hd
  rcases d4 with ⟨f1, f2, f3, f4⟩ | ⟨f1, f2⟩
  · refine ⟨S.qr_faultCode, S.qr_faultPlace, ?_, ⟨rfl, d2, zq_d3⟩, Or.inl ⟨f1, f2, f3, f4⟩⟩
    rw [s_QR_refuse, f1, zq_w32i (z := e.1) (by omega) (by omega), if_neg (by omega)]
    show some ((), WS.w_lx_kind S 300) = some ((), zq_lq S 300 S.lx_at S.lx_behind S.lx_number e.1 S.qr_faultPlace)
    rw [← f1]; rfl
  · refine ⟨1, S.lx_at, ?_, ⟨rfl, d2, zq_d3⟩, Or.inl ⟨by rw [f2]; rfl, by rw [f2]; rfl, by rw [f2]; show (1 : Int) ≤ 1; omega, by rw [f2]; show (1 : Int) ≤ 5; omega⟩⟩
    rw [s_QR_refuse, f1, if_pos (by decide)]
    show (if w32 S.lx_kind = 300 then _ else _) = _
    rw [d1, if_pos (by decide)]
    rfl
set_option maxRecDepth 100000 in
/-- a token that must be there -/
theorem zq_w_take {k : Nat} {T : Int → Int} {n : Int} {c : CW} {S : WS} {L : List Int} (h : zq_PB k T n c S L) {s : zq_PR Int} (hs : zq_QS T n S s) {v : Int} (hv : 0 ≤ v ∧ v ≤ 400 ∧ v ≠ 300 ∧ v ≠ 301) : ∃ k' a b x fc fp, s_QR_take c S v = some ((), zq_lq S k' a b x fc fp) ∧ zq_QS T n (zq_lq S k' a b x fc fp) (zq_pbd s (zq_pTake T n v)) ∧ S.lx_at ≤ a ∧ (∀ p, s = .ok p → zq_tK T n p = v → S.lx_at + 1 ≤ a) := by
  have hT := zq_PB_T h
  cases s with
  | error e =>
    obtain ⟨fc, fp, e1, e2⟩ := zq_w_refuseD (c := c) hs h.2.1.2.2.2 2
    refine ⟨300, S.lx_at, S.lx_behind, S.lx_number, fc, fp, ?_, e2, Int.le_refl _, fun p z => by cases z⟩
    rw [s_QR_take]
    show (if w32 S.lx_kind = w32 v then _ else _) = _
    rw [hs.1.1, zq_w32i (z := v) (by omega) (by omega), if_neg (by show ¬ (w32 300 = v); rw [show w32 300 = 300 by decide]; omega)]
    exact (zq_mb2_eq e1)
  | ok p =>
    have hl : zq_LV T n S p := hs
    have hk := zq_tK_R hT p
    by_cases c1 : zq_tK T n p = v
    · obtain ⟨k', b, x, e1, e2, e3, e4⟩ := zq_w_adv h hl
      refine ⟨k', _, b, x, S.qr_faultCode, S.qr_faultPlace, ?_, ?_, by rw [hl.2.1.2.1]; exact e3, fun p' z z2 => ?_⟩
      · rw [s_QR_take]
        show (if w32 S.lx_kind = w32 v then _ else _) = _
        rw [hl.2.1.1, c1, if_pos rfl]
        exact zq_mb2_eq e1
      · show zq_QS T n _ (zq_pTake T n v p)
        rw [zq_pTake, if_pos c1]; exact e2
      · cases z; rw [hl.2.1.2.1]; exact e4 (by omega)
    · obtain ⟨e1, e2⟩ := zq_w_refuse (c := c) hT hl (v := 2) (by omega)
      refine ⟨300, S.lx_at, S.lx_behind, S.lx_number, 2, S.lx_at, ?_, ?_, Int.le_refl _, fun p' z z2 => by cases z; exact absurd z2 c1⟩
      · rw [s_QR_take]
        show (if w32 S.lx_kind = w32 v then _ else _) = _
        rw [hl.2.1.1, zq_w32i (z := zq_tK T n p) (by omega) (by omega), zq_w32i (z := v) (by omega) (by omega), if_neg c1]
        exact zq_mb2_eq e1
      · show zq_QS T n _ (zq_pTake T n v p)
        rw [zq_pTake, if_neg c1]; exact e2
set_option maxRecDepth 100000 in
theorem zq_aH_snoc0 {f : Int → Int} {xs : List Int} (h : zq_aH f 0 xs) (x : Int) : zq_aH (aU f (xs.length : Int) x) 0 (xs ++ [x]) := by
  have := zq_aH_snoc h x
  rw [show (0 : Int) + (xs.length : Int) = (xs.length : Int) by omega] at this
  exact this
set_option maxRecDepth 100000 in
/-- an order is added -/
theorem zq_w_pgadd {k : Nat} {T : Int → Int} {n : Int} {c : CW} {S : WS} {L : List Int} (h : zq_PB k T n c S L) (hL : L.length ≤ 32000) (v : Int) : ∃ c' o z, s_Pg_add c S v = some ((), c', zq_ow S o z) ∧ zq_PB k T n c' (zq_ow S o z) (L ++ [v]) ∧ ∃ oc bc bs, c' = zq_cwo c oc bc bs := by
  obtain ⟨⟨g0, t1, hk⟩, ⟨h1, h2, h3, h4⟩, ⟨l1, l2, l3⟩⟩ := h
  have lo := zq_gdB_low g0 t1 h1.1 hk
  obtain ⟨g1, g2, g3, g4, g5⟩ := g0
  rw [s_Pg_add, l2, zq_w32i (z := (L.length : Int)) (by omega) (by omega), zq_w32i (z := c.oc) (by omega) (by omega)]
  by_cases c1 : (L.length : Int) < c.oc
  · rw [if_pos c1, q_Pg_add_30, l2, if_pos ⟨by omega, by omega⟩]
    refine ⟨c, aU S.pg_orders (L.length : Int) v, (L.length : Int) + 1, rfl, ⟨⟨⟨g1, g2, g3, g4, g5⟩, t1, hk⟩, ⟨h1, h2, h3, h4⟩, zq_aH_snoc0 l1 v, ?_, ?_⟩, c.oc, c.bc, c.bs, rfl⟩
    · show (L.length : Int) + 1 = _; simp
    · simp; omega
  · rw [if_neg c1, if_pos ⟨by omega, by omega, by omega⟩, if_pos ⟨by omega, by omega⟩, q_Pg_add_30]
    rw [if_pos (show (0 : Int) ≤ (WS.w_pg_orders S (aK S.pg_orders 0 c.oc (2 * c.oc))).pg_size ∧ (WS.w_pg_orders S (aK S.pg_orders 0 c.oc (2 * c.oc))).pg_size < (CW.w_oc (CW.w_bs (CW.w_bc c (c.bc - 1)) (c.bs - (2 * c.oc).toNat)) (2 * c.oc)).oc from ⟨by show (0 : Int) ≤ S.pg_size; omega, by show S.pg_size < 2 * c.oc; omega⟩)]
    refine ⟨zq_cwo c (2 * c.oc) (c.bc - 1) (c.bs - (2 * c.oc).toNat), aU (aK S.pg_orders 0 c.oc (2 * c.oc)) (L.length : Int) v, (L.length : Int) + 1, ?_, ⟨⟨⟨?_, ?_, g3, g4, ⟨?_, ?_⟩⟩, t1, hk⟩, ⟨h1, h2, h3, h4⟩, zq_aH_snoc0 ?_ v, ?_, ?_⟩, 2 * c.oc, _, _, rfl⟩
    · rw [← l2]; rfl
    · have e : zq_potC (zq_cwo c (2 * c.oc) (c.bc - 1) (c.bs - (2 * c.oc).toNat)) = zq_potC c + 1 := by
        show zq_gL c.tc + zq_gL (2 * c.oc) + zq_gL c.mo + zq_sumG (fun j => 2 * zq_gL (c.gc j)) 19 = zq_gL c.tc + zq_gL c.oc + zq_gL c.mo + zq_sumG (fun j => 2 * zq_gL (c.gc j)) 19 + 1
        rw [zq_gL_two (by omega)]; omega
      rw [e]
      show _ ≤ ((c.bc - 1 : Nat) : Int) + _
      have : 1000 + 100 * (512 - (k : Int)) + 3 * (zq_ow S (aU (aK S.pg_orders 0 c.oc (2 * c.oc)) (L.length : Int) v) ((L.length : Int) + 1)).tp_size = 1000 + 100 * (512 - (k : Int)) + 3 * S.tp_size := rfl
      omega
    · have e : zq_potS (zq_cwo c (2 * c.oc) (c.bc - 1) (c.bs - (2 * c.oc).toNat)) = zq_potS c + 2 * c.oc := by
        show 2 * c.tc + 2 * (2 * c.oc) + 2 * c.mo + (if c.mo = 16384 then 16384 else 0) + zq_sumG (fun j => zq_gP (c.gc j)) 19 = 2 * c.tc + 2 * c.oc + 2 * c.mo + (if c.mo = 16384 then 16384 else 0) + zq_sumG (fun j => zq_gP (c.gc j)) 19 + 2 * c.oc
        omega
      rw [e]
      show _ ≤ ((c.bs - (2 * c.oc).toNat : Nat) : Int) + _
      have : 2300000 + 5000 * (512 - (k : Int)) + 170 * (zq_ow S (aU (aK S.pg_orders 0 c.oc (2 * c.oc)) (L.length : Int) v) ((L.length : Int) + 1)).tp_size = 2300000 + 5000 * (512 - (k : Int)) + 170 * S.tp_size := rfl
      omega
    · show 1 ≤ 2 * c.oc; omega
    · show 2 * c.oc ≤ 65536; omega
    · intro i x hx
      have : i < L.length := (List.getElem?_eq_some_iff.mp hx).1
      unfold aK; rw [if_pos (by omega)]
      exact l1 i x hx
    · show (L.length : Int) + 1 = _; simp
    · show (((L ++ [v]).length : Nat) : Int) ≤ 2 * c.oc; simp; omega
set_option maxRecDepth 100000 in
theorem zq_w_get {k : Nat} {T : Int → Int} {n : Int} {c : CW} {S : WS} {L : List Int} (h : zq_PB k T n c S L) {i : Nat} {x : Int} (hx : L[i]? = some x) : s_Pg_get c S (i : Int) = some (x, S) := by
  obtain ⟨⟨g0, t1, hk⟩, ⟨h1, h2, h3, h4⟩, ⟨l1, l2, l3⟩⟩ := h
  have hi : i < L.length := (List.getElem?_eq_some_iff.mp hx).1
  have o := g0.2.2.2.2
  rw [s_Pg_get, l2, zq_w32i (z := (i : Int)) (by omega) (by omega), zq_w32i (z := (L.length : Int)) (by omega) (by omega), if_neg (by omega), if_neg (by omega), if_pos ⟨by omega, by omega⟩]
  have := l1 i x hx
  rw [show (0 : Int) + (i : Int) = (i : Int) by omega] at this
  rw [this]
set_option maxRecDepth 100000 in
theorem zq_w_countUp {k : Nat} {T : Int → Int} {n : Int} {c : CW} {S : WS} {L : List Int} (h : zq_PB k T n c S L) {i : Nat} {x : Int} (hx : L[i]? = some x) : ∃ o z, s_Pg_countUp c S (i : Int) = some ((), zq_ow S o z) ∧ zq_PB k T n c (zq_ow S o z) (L.set i (x + 1)) := by
  obtain ⟨⟨g0, t1, hk⟩, ⟨h1, h2, h3, h4⟩, ⟨l1, l2, l3⟩⟩ := h
  have hi : i < L.length := (List.getElem?_eq_some_iff.mp hx).1
  have o := g0.2.2.2.2
  have hv := l1 i x hx
  rw [show (0 : Int) + (i : Int) = (i : Int) by omega] at hv
  refine ⟨aU S.pg_orders (i : Int) (x + 1), S.pg_size, ?_, ⟨g0, t1, hk⟩, ⟨h1, h2, h3, h4⟩, ?_, ?_, ?_⟩
  · rw [s_Pg_countUp, l2, zq_w32i (z := (i : Int)) (by omega) (by omega), zq_w32i (z := (L.length : Int)) (by omega) (by omega), if_neg (by omega), if_neg (by omega), if_pos ⟨by omega, by omega⟩, if_pos ⟨by omega, by omega⟩, hv, ← l2]; rfl
  · intro j y hy
    show aU S.pg_orders (i : Int) (x + 1) (0 + (j : Int)) = y
    rw [show (0 : Int) + (j : Int) = (j : Int) by omega]
    rw [List.getElem?_set] at hy
    by_cases z : i = j
    · subst z
      rw [if_pos rfl, if_pos hi] at hy
      rw [zq_aU_at]; exact Option.some.inj hy
    · rw [if_neg z] at hy
      rw [zq_aU_ne _ _ _ _ (by omega)]
      have := l1 j y hy
      rw [show (0 : Int) + (j : Int) = (j : Int) by omega] at this
      exact this
  · show S.pg_size = _; rw [List.length_set]; exact l2
  · rw [List.length_set]; exact l3
set_option maxRecDepth 100000 in
/-- several orders -/
theorem zq_w_pgadd2 {k : Nat} {T : Int → Int} {n : Int} {c : CW} {S : WS} {L : List Int} (h : zq_PB k T n c S L) (hL : L.length ≤ 31990) (v w : Int) : ∃ c' o z, s_Pg_addSlice c S v w = some ((), c', zq_ow S o z) ∧ zq_PB k T n c' (zq_ow S o z) (L ++ [v, w - v]) ∧ ∃ oc bc bs, c' = zq_cwo c oc bc bs := by
  obtain ⟨c1, o1, z1, e1, p1, oc1, bc1, bs1, rfl⟩ := zq_w_pgadd h (by omega) v
  obtain ⟨c2, o2, z2, e2, p2, oc2, bc2, bs2, rfl⟩ := zq_w_pgadd p1 (by simp; omega) (w - v)
  refine ⟨_, o2, z2, ?_, by have q := p2; simp only [List.append_assoc, List.cons_append, List.nil_append] at q; exact q, oc2, bc2, bs2, rfl⟩
  rw [s_Pg_addSlice, zq_mb3_eq e1, zq_mb3_eq e2]; rfl
set_option maxRecDepth 100000 in
theorem zq_w_addNumber {k : Nat} {T : Int → Int} {n : Int} {c : CW} {S : WS} {L : List Int} (h : zq_PB k T n c S L) (hL : L.length ≤ 31990) (x : Int64) : ∃ c' o z, s_Pg_addNumber c S x = some ((), c', zq_ow S o z) ∧ zq_PB k T n c' (zq_ow S o z) (L ++ [302, (x >>> ((ii 32).toInt64 &&& 63)).toInt, x.toInt]) ∧ ∃ oc bc bs, c' = zq_cwo c oc bc bs := by
  obtain ⟨c1, o1, z1, e1, p1, oc1, bc1, bs1, rfl⟩ := zq_w_pgadd h (by omega) 302
  obtain ⟨c2, o2, z2, e2, p2, oc2, bc2, bs2, rfl⟩ := zq_w_pgadd p1 (by simp; omega) ((x >>> ((ii 32).toInt64 &&& 63)).toInt)
  obtain ⟨c3, o3, z3, e3, p3, oc3, bc3, bs3, rfl⟩ := zq_w_pgadd p2 (by simp; omega) x.toInt
  refine ⟨_, o3, z3, ?_, by have q := p3; simp only [List.append_assoc, List.cons_append, List.nil_append] at q; exact q, oc3, bc3, bs3, rfl⟩
  rw [s_Pg_addNumber, zq_mb3_eq e1, zq_mb3_eq e2, zq_mb3_eq e3]; rfl
set_option maxRecDepth 100000 in
theorem zq_w_addFunc {k : Nat} {T : Int → Int} {n : Int} {c : CW} {S : WS} {L : List Int} (h : zq_PB k T n c S L) (hL : L.length ≤ 31990) (x : Int) : ∃ c' o z, s_Pg_addFunc c S x = some ((L.length : Int), c', zq_ow S o z) ∧ zq_PB k T n c' (zq_ow S o z) (L ++ [310, x, 0, 0]) ∧ ∃ oc bc bs, c' = zq_cwo c oc bc bs := by
  obtain ⟨c1, o1, z1, e1, p1, oc1, bc1, bs1, rfl⟩ := zq_w_pgadd h (by omega) 310
  obtain ⟨c2, o2, z2, e2, p2, oc2, bc2, bs2, rfl⟩ := zq_w_pgadd p1 (by simp; omega) x
  obtain ⟨c3, o3, z3, e3, p3, oc3, bc3, bs3, rfl⟩ := zq_w_pgadd p2 (by simp; omega) 0
  obtain ⟨c4, o4, z4, e4, p4, oc4, bc4, bs4, rfl⟩ := zq_w_pgadd p3 (by simp; omega) 0
  refine ⟨_, o4, z4, ?_, by have q := p4; simp only [List.append_assoc, List.cons_append, List.nil_append] at q; exact q, oc4, bc4, bs4, rfl⟩
  rw [s_Pg_addFunc, zq_mb3_eq e1, zq_mb3_eq e2, zq_mb3_eq e3, zq_mb3_eq e4, h.2.2.2.1]; rfl
set_option maxRecDepth 100000 in
def zq_wdI (i : Nat) : List Int := (jS_byt.getD i []).map Int32.toInt
set_option maxRecDepth 100000 in
theorem zq_wdI_len : ∀ i, i < 8 → sLen i = ((zq_wdI i).length : Int) := by decide
set_option maxRecDepth 100000 in
theorem zq_wdI_short : ∀ i, i < 8 → (zq_wdI i).length ≤ 10 := by decide
set_option maxRecDepth 100000 in
theorem zq_wdI_R : ∀ i, i < 8 → ∀ x ∈ zq_wdI i, 0 ≤ x ∧ x ≤ 127 := by decide
set_option maxRecDepth 100000 in
theorem zq_wdI_ch {i j : Nat} {x : Int} (h : (zq_wdI i)[j]? = some x) : sCh i (j : Int) = x := by
  unfold zq_wdI at h
  rw [List.getElem?_map] at h
  unfold sCh
  cases e : (jS_byt.getD i [])[j]? with
  | none => rw [e] at h; cases h
  | some y =>
    rw [e] at h
    rw [Int.toNat_natCast, List.getD_eq_getElem?_getD, e]
    exact Option.some.inj h
set_option maxRecDepth 100000 in
theorem zq_E_spells {k : Nat} {T : Int → Int} {n : Int} {c : CW} {S : WS} {L : List Int} (h : zq_PB k T n c S L) {i : Nat} (hi : i < 8) {a : Int} (ha : S.lx_at = a) (h0 : 0 ≤ a) (hn : a + (zq_wdI i).length ≤ n) : ∀ (f j : Nat), j ≤ (zq_wdI i).length → (zq_wdI i).length - j < f → q_Lx_spells_30 f c i j S = some (if zq_sl T (a + j) (a + (zq_wdI i).length) = (zq_wdI i).drop j then 1 else 0, c, S)
  | 0, j => by omega
  | f + 1, j => by
    intro h1 h2
    have hs := zq_wdI_short i hi
    have hT := zq_PB_T h
    rw [q_Lx_spells_30, zq_wdI_len i hi, zq_w32i (z := ((zq_wdI i).length : Int)) (by omega) (by omega), zq_w32i (z := (j : Int)) (by omega) (by omega)]
    by_cases c1 : (zq_wdI i).length ≤ j
    · rw [if_pos (by omega), zq_sl_nil (by omega), List.drop_eq_nil_of_le c1, if_pos rfl]
    · rw [if_neg (by omega)]
      have hnn := h.2.1.2.2.2
      have eb := zq_e_byteAt (c := c) (S := S) h.2.1.1 (i := S.lx_at + (j : Int)) (by rw [ha]; constructor <;> omega)
      rw [zq_mb2_eq eb, if_pos ⟨by omega, by omega⟩, h.2.1.2.1, ha]
      have hx : (zq_wdI i)[j]? = some ((zq_wdI i)[j]'(by omega)) := List.getElem?_eq_getElem _
      rw [zq_wdI_ch hx]
      have hr := zq_wdI_R i hi _ (List.mem_of_getElem? hx)
      have ht := hT.1 (a + j)
      rw [zq_w32i (z := T (a + j)) (by omega) (by omega), zq_w32i (z := (zq_wdI i)[j]'(by omega)) (by omega) (by omega)]
      have ed : (zq_wdI i).drop j = (zq_wdI i)[j]'(by omega) :: (zq_wdI i).drop (j + 1) := List.drop_eq_getElem_cons (by omega)
      rw [zq_sl_cons (by omega), ed]
      by_cases c2 : T (a + j) = (zq_wdI i)[j]'(by omega)
      · rw [if_pos c2]
        have ih := zq_E_spells h hi ha h0 hn f (j + 1) (by omega) (by omega)
        rw [show ((j + 1 : Nat) : Int) = (j : Int) + 1 by omega, show a + ((j : Int) + 1) = a + (j : Int) + 1 by omega] at ih
        rw [ih]
        by_cases c3 : zq_sl T (a + (j : Int) + 1) (a + (zq_wdI i).length) = (zq_wdI i).drop (j + 1)
        · rw [if_pos c3, if_pos (by rw [c2, c3])]
        · rw [if_neg c3, if_neg (by intro e; exact c3 (List.cons.inj e).2)]
      · rw [if_neg c2, if_neg (by intro e; exact c2 (List.cons.inj e).1)]
set_option maxRecDepth 100000 in
theorem zq_w_spells {k : Nat} {T : Int → Int} {n : Int} {c : CW} {S : WS} {L : List Int} (h : zq_PB k T n c S L) {i : Nat} (hi : i < 8) (hw : 0 < (zq_wdI i).length) {s : zq_PR Int} (hs : zq_QS T n S s) : s_Lx_spells c S i = some (if (match s with | .ok p => zq_wrd T n p | .error _ => []) = zq_wdI i then 1 else 0, c, S) := by
  have hT := zq_PB_T h
  cases s with
  | error e =>
    rw [s_Lx_spells, hs.1.1, if_neg (by decide), if_neg]
    intro e; have := congrArg List.length e; simp at this; omega
  | ok p =>
    have hl : zq_LV T n S p := hs
    obtain ⟨⟨l1, l2, l3⟩, ⟨l4, l5, l6, l7⟩, l8⟩ := hl
    have hk := zq_tK_R hT p
    have hnn := h.2.1.2.2.2
    have ga := zq_tA_ge T n p
    show _ = some (if zq_wrd T n p = zq_wdI i then 1 else 0, c, S)
    rw [s_Lx_spells, l4, zq_w32i (z := zq_tK T n p) (by omega) (by omega)]
    unfold zq_wrd
    by_cases c1 : zq_tK T n p = 303
    · have R := (zq_tok_R hT l1 l2).2.1 (by omega)
      have R2 := R.2.2 (by omega)
      rw [if_pos c1, if_pos c1, l5, l6, zq_wdI_len i hi]
      have hsh := zq_wdI_short i hi
      rw [zq_w32i (z := zq_tB T n p - zq_tA T n p) (by omega) (by omega), zq_w32i (z := ((zq_wdI i).length : Int)) (by omega) (by omega)]
      by_cases c2 : zq_tB T n p - zq_tA T n p = ((zq_wdI i).length : Int)
      · rw [if_pos c2]
        have := zq_E_spells h hi l5 (by omega) (by omega) fU 0 (by omega) (zq_fU_gt (by omega))
        rw [show zq_tA T n p + ((0 : Nat) : Int) = zq_tA T n p by omega, show zq_tA T n p + ((zq_wdI i).length : Int) = zq_tB T n p by omega, List.drop_zero] at this
        exact this
      · rw [if_neg c2, if_neg]
        intro e; have := congrArg List.length e; rw [zq_sl_len] at this; omega
    · rw [if_neg c1, if_neg c1, if_neg]
      intro e; have := congrArg List.length e; simp at this; omega
set_option maxRecDepth 100000 in
theorem zq_w_funcKind {k : Nat} {T : Int → Int} {n : Int} {c : CW} {S : WS} {L : List Int} (h : zq_PB k T n c S L) {s : zq_PR Int} (hs : zq_QS T n S s) : s_QR_funcKind c S = some (match s with | .ok p => zq_fnK T n p | .error _ => -1, c, S) := by
  have e : ∀ i, i < 7 → s_Lx_spells c S i = some (if (match s with | .ok p => zq_wrd T n p | .error _ => []) = zq_wdI i then 1 else 0, c, S) := fun i hi => zq_w_spells h (by omega) (by revert i; decide) hs
  have ew : ∀ (W : List Int) (i : Nat), (w32 (if W = zq_wdI i then 1 else 0) = 0) ↔ ¬ W = zq_wdI i := fun W i => by
    by_cases z : W = zq_wdI i
    · rw [if_pos z]; simp [z]; decide
    · rw [if_neg z]; simp [z]; decide
  have key : ∀ W : List Int, (∀ i, i < 7 → s_Lx_spells c S i = some (if W = zq_wdI i then 1 else 0, c, S)) → s_QR_funcKind c S = some (if W = [115, 117, 109] then 1 else if W = [99, 111, 117, 110, 116] then 2 else if W = [108, 101, 97, 115, 116] then 3 else if W = [109, 111, 115, 116] then 4 else if W = [102, 105, 114, 115, 116] then 5 else if W = [108, 97, 116, 101, 115, 116] then 6 else if W = [103, 114, 111, 119, 116, 104] then 7 else -1, c, S) := by
    intro W hW
    have w0 : zq_wdI 0 = [115, 117, 109] := by decide
    have w1 : zq_wdI 1 = [99, 111, 117, 110, 116] := by decide
    have w2 : zq_wdI 2 = [108, 101, 97, 115, 116] := by decide
    have w3 : zq_wdI 3 = [109, 111, 115, 116] := by decide
    have w4 : zq_wdI 4 = [102, 105, 114, 115, 116] := by decide
    have w5 : zq_wdI 5 = [108, 97, 116, 101, 115, 116] := by decide
    have w6 : zq_wdI 6 = [103, 114, 111, 119, 116, 104] := by decide
    rw [s_QR_funcKind, zq_mb3_eq (hW 0 (by omega)), ← w0, ← w1, ← w2, ← w3, ← w4, ← w5, ← w6]
    by_cases c0 : W = zq_wdI 0
    · rw [if_neg (by rw [ew]; simp [c0]), if_pos c0]
    rw [if_pos ((ew _ _).mpr c0), if_neg c0, zq_mb3_eq (hW 1 (by omega))]
    by_cases c1 : W = zq_wdI 1
    · rw [if_neg (by rw [ew]; simp [c1]), if_pos c1]
    rw [if_pos ((ew _ _).mpr c1), if_neg c1, zq_mb3_eq (hW 2 (by omega))]
    by_cases c2 : W = zq_wdI 2
    · rw [if_neg (by rw [ew]; simp [c2]), if_pos c2]
    rw [if_pos ((ew _ _).mpr c2), if_neg c2, zq_mb3_eq (hW 3 (by omega))]
    by_cases c3 : W = zq_wdI 3
    · rw [if_neg (by rw [ew]; simp [c3]), if_pos c3]
    rw [if_pos ((ew _ _).mpr c3), if_neg c3, zq_mb3_eq (hW 4 (by omega))]
    by_cases c4 : W = zq_wdI 4
    · rw [if_neg (by rw [ew]; simp [c4]), if_pos c4]
    rw [if_pos ((ew _ _).mpr c4), if_neg c4, zq_mb3_eq (hW 5 (by omega))]
    by_cases c5 : W = zq_wdI 5
    · rw [if_neg (by rw [ew]; simp [c5]), if_pos c5]
    rw [if_pos ((ew _ _).mpr c5), if_neg c5, zq_mb3_eq (hW 6 (by omega))]
    by_cases c6 : W = zq_wdI 6
    · rw [if_neg (by rw [ew]; simp [c6]), if_pos c6]
    rw [if_pos ((ew _ _).mpr c6), if_neg c6]
  cases s with
  | error x =>
    rw [key [] e]; simp
  | ok p =>
    rw [key (zq_wrd T n p) e]; rfl
/-! names -/
set_option maxRecDepth 100000 in
/-- a function's record stands in the orders -/
def zq_NR (n : Int) (L : List Int) (v : Nat) (ns : List zq_NM) : Prop := (∃ kd m, L[v]? = some 310 ∧ L[v + 1]? = some kd ∧ L[v + 2]? = some (ns.length : Int) ∧ L[v + 3]? = some m) ∧ (∀ (i : Nat) (x : zq_NM), ns[i]? = some x → L[v + 4 + 2 * i]? = some x.1 ∧ L[v + 4 + 2 * i + 1]? = some x.2) ∧ (∀ x ∈ ns, 0 ≤ x.1 ∧ 0 ≤ x.2 ∧ x.1 + x.2 ≤ n) ∧ ns.length ≤ 6
set_option maxRecDepth 100000 in
theorem zq_NR_app {n : Int} {L L' : List Int} {v : Nat} {ns : List zq_NM} (h : zq_NR n L v ns) : zq_NR n (L ++ L') v ns := by
  have ap : ∀ {i : Nat} {x : Int}, L[i]? = some x → (L ++ L')[i]? = some x := fun {i x} hx => by
    rw [List.getElem?_append_left (List.getElem?_eq_some_iff.mp hx).1]; exact hx
  obtain ⟨⟨kd, m, h1, h2, h3, h4⟩, h5, h6, h7⟩ := h
  exact ⟨⟨kd, m, ap h1, ap h2, ap h3, ap h4⟩, fun i x hx => ⟨ap (h5 i x hx).1, ap (h5 i x hx).2⟩, h6, h7⟩
set_option maxRecDepth 100000 in
theorem zq_w_namesOf {k : Nat} {T : Int → Int} {n : Int} {c : CW} {S : WS} {L : List Int} (h : zq_PB k T n c S L) {v : Nat} {ns : List zq_NM} (hr : zq_NR n L v ns) : s_Pg_namesOf c S (v : Int) = some ((ns.length : Int), S) := by
  obtain ⟨⟨kd, m, h1, h2, h3, h4⟩, h5, h6, h7⟩ := hr
  rw [s_Pg_namesOf, show (v : Int) + 2 = ((v + 2 : Nat) : Int) by omega, zq_mb2_eq (zq_w_get h h3)]
set_option maxRecDepth 100000 in
theorem zq_w_nameAt {k : Nat} {T : Int → Int} {n : Int} {c : CW} {S : WS} {L : List Int} (h : zq_PB k T n c S L) {v : Nat} {ns : List zq_NM} (hr : zq_NR n L v ns) {i : Nat} {x : zq_NM} (hx : ns[i]? = some x) : s_Pg_nameAt c S (v : Int) (i : Int) = some (x.1, S) ∧ s_Pg_nameLength c S (v : Int) (i : Int) = some (x.2, S) := by
  have h5 := hr.2.1
  constructor
  · rw [s_Pg_nameAt, show (v : Int) + 4 + 2 * (i : Int) = ((v + 4 + 2 * i : Nat) : Int) by omega]; exact zq_mb2_eq (zq_w_get h (h5 i x hx).1)
  · rw [s_Pg_nameLength, show (v : Int) + 4 + 2 * (i : Int) + 1 = ((v + 4 + 2 * i + 1 : Nat) : Int) by omega]; exact zq_mb2_eq (zq_w_get h (h5 i x hx).2)
set_option maxRecDepth 100000 in
theorem zq_w_isName {k : Nat} {T : Int → Int} {n : Int} {c : CW} {S : WS} {L : List Int} (h : zq_PB k T n c S L) {v : Nat} {ns : List zq_NM} (hr : zq_NR n L v ns) {i : Nat} {x : zq_NM} (hx : ns[i]? = some x) {y : zq_NM} (hy : 0 ≤ y.1 ∧ 0 ≤ y.2 ∧ y.1 + y.2 ≤ n) : s_QR_isName c S (v : Int) (i : Int) y.1 y.2 = some (if zq_nmx T x = zq_nmx T y then 1 else 0, S) := by
  have hr0 := hr
  obtain ⟨⟨kd, m, h1, h2, h3, h4⟩, h5, h6, h7⟩ := hr
  have hx1 := h6 x (List.mem_of_getElem? hx)
  have hn := h.2.1.2.2.2
  have hn2 := zq_w_nameAt h hr0 hx
  rw [s_QR_isName, zq_mb2_eq hn2.1, zq_mb2_eq hn2.2, zq_mb2_eq (zq_e_tcmp h.2.1.1 (by omega) (by omega)), h.2.1.2.1]
  have r := zq_lexc_R (zq_sl T x.1 (x.1 + x.2)) (zq_sl T y.1 (y.1 + y.2))
  have z := zq_lexc_0 (zq_sl T x.1 (x.1 + x.2)) (zq_sl T y.1 (y.1 + y.2))
  unfold zq_nmx
  by_cases c1 : zq_sl T x.1 (x.1 + x.2) = zq_sl T y.1 (y.1 + y.2)
  · rw [if_pos (by rw [z.mpr c1]; decide), if_pos c1]
  · rw [if_neg c1, if_neg]
    have : ¬ zq_lexc (zq_sl T x.1 (x.1 + x.2)) (zq_sl T y.1 (y.1 + y.2)) = 0 := fun e => c1 (z.mp e)
    rw [zq_w32i (by omega) (by omega)]; exact this
set_option maxRecDepth 100000 in
theorem zq_E_hasName {k : Nat} {T : Int → Int} {n : Int} {c : CW} {S : WS} {L : List Int} (h : zq_PB k T n c S L) {v : Nat} {ns : List zq_NM} (hr : zq_NR n L v ns) {y : zq_NM} (hy : 0 ≤ y.1 ∧ 0 ≤ y.2 ∧ y.1 + y.2 ≤ n) : ∀ (f i : Nat), i ≤ ns.length → ns.length - i < f → q_QR_hasName_3 c f v y.1 y.2 i S = some (if (ns.drop i).any (fun x => zq_nmx T x == zq_nmx T y) = true then 1 else 0, S)
  | 0, i => by omega
  | f + 1, i => by
    intro h1 h2
    have h7 := hr.2.2.2
    rw [q_QR_hasName_3, zq_mb2_eq (zq_w_namesOf h hr), zq_w32i (z := (ns.length : Int)) (by omega) (by omega), zq_w32i (z := (i : Int)) (by omega) (by omega)]
    by_cases c1 : ns.length ≤ i
    · rw [if_pos (by omega), List.drop_eq_nil_of_le c1]; simp
    · have hx : ns[i]? = some (ns[i]'(by omega)) := List.getElem?_eq_getElem _
      rw [if_neg (by omega), zq_mb2_eq (zq_w_isName h hr hx hy), List.drop_eq_getElem_cons (show i < ns.length by omega), List.any_cons]
      have ih := zq_E_hasName h hr hy f (i + 1) (by omega) (by omega)
      rw [show ((i + 1 : Nat) : Int) = (i : Int) + 1 by omega] at ih
      by_cases c2 : zq_nmx T (ns[i]'(by omega)) = zq_nmx T y
      · rw [if_pos c2, if_neg (by decide), if_pos (by simp [c2])]
      · rw [if_neg c2, if_pos (by decide), ih]
        have : (zq_nmx T (ns[i]'(by omega)) == zq_nmx T y) = false := by simpa using c2
        rw [this, Bool.false_or]
set_option maxRecDepth 100000 in
theorem zq_E_same {k : Nat} {T : Int → Int} {n : Int} {c : CW} {S : WS} {L : List Int} (h : zq_PB k T n c S L) {v w : Nat} {ns ms : List zq_NM} (hr : zq_NR n L v ns) (hq : zq_NR n L w ms) (hl : ns.length = ms.length) : ∀ (f i : Nat), i ≤ ns.length → ns.length - i < f → q_QR_haveSameNames_23 c f v w i S = some (if (ns.drop i).map (zq_nmx T) = (ms.drop i).map (zq_nmx T) then 1 else 0, S)
  | 0, i => by omega
  | f + 1, i => by
    intro h1 h2
    have h7 := hr.2.2.2
    rw [q_QR_haveSameNames_23, zq_mb2_eq (zq_w_namesOf h hr), zq_w32i (z := (ns.length : Int)) (by omega) (by omega), zq_w32i (z := (i : Int)) (by omega) (by omega)]
    by_cases c1 : ns.length ≤ i
    · rw [if_pos (by omega), List.drop_eq_nil_of_le c1, List.drop_eq_nil_of_le (by omega)]; simp
    · have hx : ns[i]? = some (ns[i]'(by omega)) := List.getElem?_eq_getElem _
      have hy : ms[i]? = some (ms[i]'(by omega)) := List.getElem?_eq_getElem _
      have hy2 := hq.2.2.1 _ (List.mem_of_getElem? hy)
      have hn2 := zq_w_nameAt h hq hy
      rw [if_neg (by omega), zq_mb2_eq hn2.1, zq_mb2_eq hn2.2, zq_mb2_eq (zq_w_isName h hr hx hy2), List.drop_eq_getElem_cons (show i < ns.length by omega), List.drop_eq_getElem_cons (show i < ms.length by omega), List.map_cons, List.map_cons]
      have ih := zq_E_same h hr hq hl f (i + 1) (by omega) (by omega)
      rw [show ((i + 1 : Nat) : Int) = (i : Int) + 1 by omega] at ih
      by_cases c2 : zq_nmx T (ns[i]'(by omega)) = zq_nmx T (ms[i]'(by omega))
      · rw [if_pos c2, if_neg (by decide), ih]
        by_cases c3 : (ns.drop (i + 1)).map (zq_nmx T) = (ms.drop (i + 1)).map (zq_nmx T)
        · rw [if_pos c3, if_pos (by rw [c2, c3])]
        · rw [if_neg c3, if_neg (by intro e; exact c3 (List.cons.inj e).2)]
      · rw [if_neg c2, if_pos (by decide), if_neg (by intro e; exact c2 (List.cons.inj e).1)]
set_option maxRecDepth 100000 in
theorem zq_w_same {k : Nat} {T : Int → Int} {n : Int} {c : CW} {S : WS} {L : List Int} (h : zq_PB k T n c S L) {v w : Nat} {ns ms : List zq_NM} (hr : zq_NR n L v ns) (hq : zq_NR n L w ms) : s_QR_haveSameNames c S v w = some (if ns.map (zq_nmx T) = ms.map (zq_nmx T) then 1 else 0, S) := by
  have h7 := hr.2.2.2
  have h8 := hq.2.2.2
  rw [s_QR_haveSameNames, zq_mb2_eq (zq_w_namesOf h hr), zq_mb2_eq (zq_w_namesOf h hq), zq_w32i (z := (ns.length : Int)) (by omega) (by omega), zq_w32i (z := (ms.length : Int)) (by omega) (by omega)]
  by_cases c1 : ns.length = ms.length
  · rw [if_pos (by omega)]
    have := zq_E_same h hr hq c1 fU 0 (by omega) (zq_fU_gt (by omega))
    rw [List.drop_zero, List.drop_zero] at this
    exact this
  · rw [if_neg (by omega), if_neg]
    intro e; have := congrArg List.length e; simp at this; omega
set_option maxRecDepth 100000 in
/-- a naming: none, or a record with names -/
def zq_NG (n : Int) (L : List Int) (r : Int) (ns : List zq_NM) : Prop := (r = -1 ∧ ns = []) ∨ (∃ v : Nat, r = (v : Int) ∧ v < L.length ∧ ns ≠ [] ∧ zq_NR n L v ns)
set_option maxRecDepth 100000 in
theorem zq_NG_app {n : Int} {L L' : List Int} {r : Int} {ns : List zq_NM} (h : zq_NG n L r ns) : zq_NG n (L ++ L') r ns := by
  rcases h with h | ⟨v, h1, h2, h3, h4⟩
  · exact Or.inl h
  · exact Or.inr ⟨v, h1, by rw [List.length_append]; omega, h3, zq_NR_app h4⟩
set_option maxRecDepth 100000 in
theorem zq_NG_R {n : Int} {L : List Int} {r : Int} {ns : List zq_NM} (h : zq_NG n L r ns) (hL : L.length ≤ 40000) : -1 ≤ r ∧ r ≤ 40000 ∧ (r = -1 ↔ ns = []) := by
  rcases h with h | ⟨v, h1, h2, h3, h4⟩
  · exact ⟨by omega, by omega, by simp [h.1, h.2]⟩
  · exact ⟨by omega, by omega, ⟨fun e => by omega, fun e => absurd e h3⟩⟩
set_option maxRecDepth 100000 in
/-- how two operands come together -/
theorem zq_w_join {k : Nat} {T : Int → Int} {n : Int} {c : CW} {S : WS} {L : List Int} (h : zq_PB k T n c S L) (hL : L.length ≤ 40000) {r s : Int} {a b : List zq_NM} (ha : zq_NG n L r a) (hb : zq_NG n L s b) (hc : -1 ≤ S.qr_clashPlace ∧ S.qr_clashPlace ≤ 20000) (zq_pl : Int) : ∃ r', s_QR_join c S r s zq_pl = some (r', WS.w_qr_clashPlace S (if a ≠ [] ∧ b ≠ [] ∧ S.qr_clashPlace = -1 ∧ a.map (zq_nmx T) ≠ b.map (zq_nmx T) then zq_pl else S.qr_clashPlace)) ∧ zq_NG n L r' (if a = [] then b else a) := by
  have ra := zq_NG_R ha hL
  have rb := zq_NG_R hb hL
  have same : WS.w_qr_clashPlace S S.qr_clashPlace = S := rfl
  rw [s_QR_join, zq_w32i (z := r) (by omega) (by omega), zq_w32i (z := s) (by omega) (by omega), zq_w32i (z := S.qr_clashPlace) (by omega) (by omega)]
  by_cases c1 : a = []
  · rw [if_pos (ra.2.2.mpr c1), q_QR_join_10, zq_w32i (z := r) (by omega) (by omega), if_pos (ra.2.2.mpr c1), if_neg (by simp [c1]), if_pos c1, same]
    exact ⟨s, rfl, hb⟩
  · rw [if_neg (fun e => c1 (ra.2.2.mp e)), if_neg c1]
    by_cases c2 : b = []
    · rw [if_pos (rb.2.2.mpr c2), q_QR_join_10, zq_w32i (z := r) (by omega) (by omega), if_neg (fun e => c1 (ra.2.2.mp e)), if_neg (by simp [c2]), same]
      exact ⟨r, rfl, ha⟩
    · rw [if_neg (fun e => c2 (rb.2.2.mp e))]
      by_cases c3 : S.qr_clashPlace = -1
      · rw [if_pos c3]
        rcases ha with ha | ⟨v, rfl, h2, h3, h4⟩
        · exact absurd ha.2 c1
        rcases hb with hb | ⟨w, rfl, h2', h3', h4'⟩
        · exact absurd hb.2 c2
        rw [zq_mb2_eq (zq_w_same h h4 h4')]
        by_cases c4 : a.map (zq_nmx T) = b.map (zq_nmx T)
        · rw [if_pos c4, if_neg (by decide), if_neg (by simp [c4]), same]
          exact ⟨_, rfl, Or.inr ⟨v, rfl, h2, h3, h4⟩⟩
        · rw [if_neg c4, if_pos (by decide), if_pos ⟨c1, c2, c3, c4⟩]
          exact ⟨_, rfl, Or.inr ⟨v, rfl, h2, h3, h4⟩⟩
      · rw [if_neg c3, if_neg (by simp [c3]), same]
        exact ⟨r, rfl, ha⟩
set_option maxRecDepth 100000 in
def zq_frc (P : List Int) (kd : Int) (ns : List zq_NM) (ms : List zq_MT) : List Int := P ++ ([310, kd, (ns.length : Int), (ms.length : Int)] ++ (zq_encN ns ++ zq_encM ms))
set_option maxRecDepth 100000 in
theorem zq_get_app {P R : List Int} {i : Nat} : (P ++ R)[P.length + i]? = R[i]? := by rw [List.getElem?_append_right (by omega), Nat.add_sub_cancel_left]
set_option maxRecDepth 100000 in
theorem zq_set_app {P R : List Int} {i : Nat} {z : Int} : (P ++ R).set (P.length + i) z = P ++ R.set i z := by rw [List.set_append_right _ _ (by omega), Nat.add_sub_cancel_left]
set_option maxRecDepth 100000 in
theorem zq_encN_app (a b : List zq_NM) : zq_encN (a ++ b) = zq_encN a ++ zq_encN b := List.flatMap_append
set_option maxRecDepth 100000 in
theorem zq_encM_app (a b : List zq_MT) : zq_encM (a ++ b) = zq_encM a ++ zq_encM b := List.flatMap_append
set_option maxRecDepth 100000 in
theorem zq_encN_len : ∀ ns : List zq_NM, (zq_encN ns).length = 2 * ns.length
  | [] => rfl
  | x :: r => by have := zq_encN_len r; simp only [zq_encN, List.flatMap_cons, List.length_append, List.length_cons, List.length_nil] at *; omega
set_option maxRecDepth 100000 in
theorem zq_encM_len : ∀ ms : List zq_MT, (zq_encM ms).length = 5 * ms.length
  | [] => rfl
  | x :: r => by have := zq_encM_len r; simp only [zq_encM, List.flatMap_cons, List.length_append, List.length_cons, List.length_nil] at *; omega
set_option maxRecDepth 100000 in
theorem zq_encN_get : ∀ (ns : List zq_NM) (i : Nat) (x : zq_NM), ns[i]? = some x → (zq_encN ns)[2 * i]? = some x.1 ∧ (zq_encN ns)[2 * i + 1]? = some x.2
  | [], i, x, h => by simp at h
  | y :: r, 0, x, h => by simp at h; subst h; exact ⟨rfl, rfl⟩
  | y :: r, i + 1, x, h => by
    rw [List.getElem?_cons_succ] at h
    have := zq_encN_get r i x h
    have e : zq_encN (y :: r) = y.1 :: y.2 :: zq_encN r := rfl
    rw [e, show 2 * (i + 1) = 2 * i + 1 + 1 by omega, show 2 * i + 1 + 1 + 1 = (2 * i + 1) + 1 + 1 by omega]
    simp only [List.getElem?_cons_succ]
    exact this
set_option maxRecDepth 100000 in
theorem zq_frc_len (P : List Int) (kd : Int) (ns : List zq_NM) (ms : List zq_MT) : (zq_frc P kd ns ms).length = P.length + 4 + 2 * ns.length + 5 * ms.length := by
  unfold zq_frc; simp only [List.length_append, zq_encN_len, zq_encM_len, List.length_cons, List.length_nil]; omega
set_option maxRecDepth 100000 in
theorem zq_frc_NR {n : Int} {P : List Int} {kd : Int} {ns : List zq_NM} {ms : List zq_MT} (h1 : ∀ x ∈ ns, 0 ≤ x.1 ∧ 0 ≤ x.2 ∧ x.1 + x.2 ≤ n) (h2 : ns.length ≤ 6) : zq_NR n (zq_frc P kd ns ms) P.length ns := by
  refine ⟨⟨kd, (ms.length : Int), ?_, ?_, ?_, ?_⟩, fun i x hx => ?_, h1, h2⟩
  · have := zq_get_app (P := P) (R := [310, kd, (ns.length : Int), (ms.length : Int)] ++ (zq_encN ns ++ zq_encM ms)) (i := 0); exact this
  · exact zq_get_app (P := P) (R := [310, kd, (ns.length : Int), (ms.length : Int)] ++ (zq_encN ns ++ zq_encM ms)) (i := 1)
  · exact zq_get_app (P := P) (R := [310, kd, (ns.length : Int), (ms.length : Int)] ++ (zq_encN ns ++ zq_encM ms)) (i := 2)
  · exact zq_get_app (P := P) (R := [310, kd, (ns.length : Int), (ms.length : Int)] ++ (zq_encN ns ++ zq_encM ms)) (i := 3)
  · have hi : i < ns.length := (List.getElem?_eq_some_iff.mp hx).1
    have e := zq_encN_get ns i x hx
    have l := zq_encN_len ns
    unfold zq_frc
    constructor
    · rw [show P.length + 4 + 2 * i = P.length + (4 + 2 * i) by omega, zq_get_app, List.getElem?_append_right (by simp only [List.length_cons, List.length_nil]; omega)]
      rw [show 4 + 2 * i - [310, kd, (ns.length : Int), (ms.length : Int)].length = 2 * i by simp, List.getElem?_append_left (by omega)]
      exact e.1
    · rw [show P.length + 4 + 2 * i + 1 = P.length + (4 + 2 * i + 1) by omega, zq_get_app, List.getElem?_append_right (by simp; omega)]
      rw [show 4 + 2 * i + 1 - [310, kd, (ns.length : Int), (ms.length : Int)].length = 2 * i + 1 by simp only [List.length_cons, List.length_nil]; omega, List.getElem?_append_left (by omega)]
      exact e.2
set_option maxRecDepth 100000 in
theorem zq_frc_addN (P : List Int) (kd : Int) (ns : List zq_NM) (x : zq_NM) : (zq_frc P kd ns []).set (P.length + 2) ((ns.length : Int) + 1) ++ [x.1, x.2] = zq_frc P kd (ns ++ [x]) [] := by
  unfold zq_frc
  rw [zq_set_app, zq_encN_app]
  simp [zq_encN, zq_encM]
set_option maxRecDepth 100000 in
theorem zq_frc_addM (P : List Int) (kd : Int) (ns : List zq_NM) (ms : List zq_MT) (x : zq_MT) : (zq_frc P kd ns ms).set (P.length + 3) ((ms.length : Int) + 1) ++ [x.1.1, x.1.2, x.2.1, x.2.2.1, x.2.2.2] = zq_frc P kd ns (ms ++ [x]) := by
  unfold zq_frc
  rw [zq_set_app, zq_encM_app]
  simp [zq_encM]
set_option maxRecDepth 100000 in
def zq_BD (S S' : WS) (j : Int) : Prop := S.lx_at ≤ S'.lx_at ∧ S'.pg_size - 3 * S'.lx_at ≤ S.pg_size - 3 * S.lx_at + j ∧ S'.qr_clashPlace = S.qr_clashPlace
set_option maxRecDepth 100000 in
theorem zq_BD_refl (S : WS) : zq_BD S S 0 := ⟨Int.le_refl _, by omega, rfl⟩
set_option maxRecDepth 100000 in
theorem zq_BD_tr {S S1 S2 : WS} {i j : Int} (h1 : zq_BD S S1 i) (h2 : zq_BD S1 S2 j) : zq_BD S S2 (i + j) := ⟨by have := h1.1; have := h2.1; omega, by have := h1.2.1; have := h2.2.1; omega, by rw [h2.2.2, h1.2.2]⟩
set_option maxRecDepth 100000 in
theorem zq_BD_le {S S1 : WS} {i j : Int} (h1 : zq_BD S S1 i) (h : i ≤ j) : zq_BD S S1 j := ⟨h1.1, by have := h1.2.1; omega, h1.2.2⟩
set_option maxRecDepth 100000 in
theorem zq_QS_at {T : Int → Int} {n : Int} {S : WS} {s : zq_PR Int} (h : zq_QS T n S s) : 0 ≤ S.lx_at ∧ S.lx_at ≤ n := by
  cases s with
  | error e => exact h.1.2
  | ok p =>
    have hl : zq_LV T n S p := h
    have := zq_tA_ge T n p
    have := zq_tA_le (T := T) hl.1.2.1
    rw [hl.2.1.2.1]; have := hl.1.1; omega
set_option maxRecDepth 100000 in
theorem zq_w_takeComma {k : Nat} {T : Int → Int} {n : Int} {c : CW} {S : WS} {L : List Int} (h : zq_PB k T n c S L) {s : zq_PR Int} (hs : zq_QS T n S s) :
    (∃ S1, s_QR_takeComma c S = some (1, S1) ∧ (∃ p, s = .ok p ∧ zq_tK T n p = 44) ∧ zq_PB k T n c S1 L ∧ zq_FR c S c S1 ∧ zq_QS T n S1 (zq_pbd s (zq_pAdv T n)) ∧ zq_BD S S1 (-3)) ∨
    (s_QR_takeComma c S = some (0, S) ∧ ∀ p, s = .ok p → zq_tK T n p ≠ 44) := by
  have hT := zq_PB_T h
  cases s with
  | error e =>
    right
    refine ⟨?_, fun p z => by cases z⟩
    rw [s_QR_takeComma]
    show (if w32 S.lx_kind = 44 then _ else _) = _
    rw [hs.1.1, if_neg (by decide)]
  | ok p =>
    have hl : zq_LV T n S p := hs
    have hk := zq_tK_R hT p
    by_cases c1 : zq_tK T n p = 44
    · left
      obtain ⟨k', b, x, e1, e2, e3, e4⟩ := zq_w_adv h hl
      refine ⟨_, ?_, ⟨p, rfl, c1⟩, zq_PB_lq h k' (zq_tA T n (zq_tB T n p)) b x S.qr_faultCode S.qr_faultPlace, zq_FR_lq _ _ _ _ _ _ _ _, e2, ?_⟩
      · rw [s_QR_takeComma]
        show (if w32 S.lx_kind = 44 then _ else _) = _
        rw [hl.2.1.1, c1, if_pos (by decide)]
        exact zq_mb2_eq e1
      · have := e4 (by omega)
        have e5 := hl.2.1.2.1
        refine ⟨?_, ?_, rfl⟩
        · show S.lx_at ≤ zq_tA T n (zq_tB T n p); omega
        · show S.pg_size - 3 * zq_tA T n (zq_tB T n p) ≤ _; omega
    · right
      refine ⟨?_, fun p' z => by cases z; exact c1⟩
      rw [s_QR_takeComma]
      show (if w32 S.lx_kind = 44 then _ else _) = _
      rw [hl.2.1.1, zq_w32i (z := zq_tK T n p) (by omega) (by omega), if_neg c1]
set_option maxRecDepth 100000 in
/-- a token that must be there, with the bound -/
theorem zq_w_take2 {k : Nat} {T : Int → Int} {n : Int} {c : CW} {S : WS} {L : List Int} (h : zq_PB k T n c S L) {s : zq_PR Int} (hs : zq_QS T n S s) {v : Int} (hv : 0 ≤ v ∧ v ≤ 400 ∧ v ≠ 300 ∧ v ≠ 301) : ∃ S1, s_QR_take c S v = some ((), S1) ∧ zq_PB k T n c S1 L ∧ zq_FR c S c S1 ∧ zq_QS T n S1 (zq_pbd s (zq_pTake T n v)) ∧ zq_BD S S1 0 ∧ (∀ p q, s = .ok p → zq_pTake T n v p = .ok q → zq_BD S S1 (-3)) := by
  obtain ⟨k', a, b, x, fc, fp, e1, e2, e3, e4⟩ := zq_w_take h hs hv
  refine ⟨_, e1, zq_PB_lq h _ _ _ _ _ _, zq_FR_lq _ _ _ _ _ _ _ _, e2, ⟨e3, ?_, rfl⟩, fun p q z1 z2 => ⟨e3, ?_, rfl⟩⟩
  · show S.pg_size - 3 * a ≤ _; omega
  · have := e4 p z1 (by
      unfold zq_pTake at z2
      by_cases z : zq_tK T n p = v
      · exact z
      · rw [if_neg z] at z2; cases z2)
    show S.pg_size - 3 * a ≤ _; omega
set_option maxRecDepth 100000 in
def zq_okN (n : Int) (ns : List zq_NM) : Prop := (∀ x ∈ ns, 0 ≤ x.1 ∧ 0 ≤ x.2 ∧ x.1 + x.2 ≤ n) ∧ ns.length ≤ 6
set_option maxRecDepth 100000 in
theorem zq_E_names {k : Nat} {T : Int → Int} {n : Int} {P : List Int} {kd : Int} : ∀ (m f : Nat) (c : CW) (S : WS) (ns : List zq_NM) (s : zq_PR Int), m < f → m ≤ 20000 → zq_PB k T n c S (zq_frc P kd ns []) → zq_QS T n S s → zq_okN n ns → S.pg_size ≤ 3 * S.lx_at + 20 →
    ∃ c' S' ns', q_QR_readNames_10 f c (P.length : Int) 1 (m : Int) S = some ((), c', S') ∧ zq_PB k T n c' S' (zq_frc P kd ns' []) ∧ zq_FR c S c' S' ∧ zq_okN n ns' ∧ zq_QS T n S' (zq_pbd s (fun p => zq_pbd (zq_pNames T n m ns p) (fun y => .ok y.1))) ∧ zq_BD S S' 0 ∧ (∀ p y, s = .ok p → zq_pNames T n m ns p = .ok y → ns' = y.2)
  | m, 0, c, S, ns, s => by omega
  | 0, f + 1, c, S, ns, s => by
    intro hf hm h hs ho hz
    refine ⟨c, S, ns, ?_, h, zq_FR_refl _ _, ho, ?_, zq_BD_refl S, fun p y z1 z2 => ?_⟩
    · rw [q_QR_readNames_10, if_pos (by decide)]
    · cases s <;> exact hs
    · rw [zq_pNames] at z2; cases z2; rfl
  | m + 1, f + 1, c, S, ns, s => by
    intro hf hm h hs ho hz
    have hT := zq_PB_T h
    have hat := zq_QS_at hs
    have hn := h.2.1.2.2.2
    have hlen := zq_frc_len P kd ns []
    have hsz := h.2.2.2.1
    have stop : ∀ (S1 : WS) (v3 : Int), ∃ z, (q_QR_readNames_10 f c (P.length : Int) 0 v3 S1) = z ∧ (0 < f → z = some ((), c, S1)) := fun S1 v3 => ⟨_, rfl, fun hf => by
      obtain ⟨g, rfl⟩ : ∃ g, f = g + 1 := ⟨f - 1, by omega⟩
      rw [q_QR_readNames_10]
      by_cases z : w32 v3 ≤ 0
      · rw [if_pos z]
      · rw [if_neg z, if_pos (by decide)]⟩
    rw [q_QR_readNames_10, zq_w32i (z := ((m + 1 : Nat) : Int)) (by omega) (by omega), if_neg (by omega), if_neg (by decide)]
    cases s with
    | error e =>
      obtain ⟨fc, fp, e1, e2⟩ := zq_w_refuseD (c := c) hs hn 2
      refine ⟨c, _, ns, ?_, zq_PB_lq h _ _ _ _ fc fp, zq_FR_lq _ _ _ _ _ _ _ _, ho, e2, ⟨Int.le_refl _, by show S.pg_size - 3 * S.lx_at ≤ _; omega, rfl⟩, fun p y z1 => by cases z1⟩
      show (if w32 S.lx_kind = 303 then _ else _) = _
      rw [hs.1.1, if_neg (by decide)]
      refine (zq_mb2_eq e1).trans ?_
      rw [q_QR_readNames_124]
      rcases zq_w_takeComma (zq_PB_lq h 300 S.lx_at S.lx_behind S.lx_number fc fp) (s := .error e) e2 with ⟨S1, -, ⟨p, z, -⟩, -⟩ | ⟨t1, -⟩
      · cases z
      · obtain ⟨z, z1, z2⟩ := stop (zq_lq S 300 S.lx_at S.lx_behind S.lx_number fc fp) (((m + 1 : Nat) : Int) + -1)
        refine (zq_mb2_eq t1).trans ?_
        rw [z1, z2 (by omega)]
    | ok p =>
      have hl : zq_LV T n S p := hs
      have hk := zq_tK_R hT p
      have p1 := hl.1.1; have p2 := hl.1.2.1; have p3 := hl.1.2.2
      show ∃ c' S' ns', (if w32 S.lx_kind = 303 then _ else _) = _ ∧ _
      rw [hl.2.1.1, zq_w32i (z := zq_tK T n p) (by omega) (by omega)]
      show ∃ c' S' ns', _ ∧ _ ∧ _ ∧ _ ∧ zq_QS T n S' (zq_pbd (zq_pNames T n (m + 1) ns p) (fun y => .ok y.1)) ∧ _ ∧ (∀ p' y, Except.ok p = Except.ok p' → zq_pNames T n (m + 1) ns p' = .ok y → ns' = y.2)
      have dead : ∀ (v : Int) (e : zq_PE), (1 ≤ v ∧ v ≤ 5) → e = (v, zq_tA T n p) → zq_pNames T n (m + 1) ns p = .error e → ∃ c' S' ns', mb2 (s_QR_refuse c S v) (fun r34 S34 => q_QR_readNames_124 (q_QR_readNames_10 f) c (P.length : Int) ((m + 1 : Nat) : Int) S34) = some ((), c', S') ∧ zq_PB k T n c' S' (zq_frc P kd ns' []) ∧ zq_FR c S c' S' ∧ zq_okN n ns' ∧ zq_QS T n S' (zq_pbd (zq_pNames T n (m + 1) ns p) (fun y => .ok y.1)) ∧ zq_BD S S' 0 ∧ (∀ p' y, Except.ok (ε := zq_PE) p = Except.ok p' → zq_pNames T n (m + 1) ns p' = .ok y → ns' = y.2) := by
        intro v e hv he hp
        obtain ⟨e1, e2⟩ := zq_w_refuse (c := c) hT hl hv
        rw [← he] at e2
        refine ⟨c, _, ns, ?_, zq_PB_lq h 300 S.lx_at S.lx_behind S.lx_number v S.lx_at, zq_FR_lq _ _ _ _ _ _ _ _, ho, ?_, ⟨Int.le_refl _, by show S.pg_size - 3 * S.lx_at ≤ _; omega, rfl⟩, fun p' y z1 z2 => ?_⟩
        · refine (zq_mb2_eq e1).trans ?_
          rw [q_QR_readNames_124]
          rcases zq_w_takeComma (zq_PB_lq h 300 S.lx_at S.lx_behind S.lx_number v S.lx_at) (s := .error e) e2 with ⟨S1, -, ⟨p, z, -⟩, -⟩ | ⟨t1, -⟩
          · cases z
          · obtain ⟨z, z1, z2⟩ := stop (zq_lq S 300 S.lx_at S.lx_behind S.lx_number v S.lx_at) (((m + 1 : Nat) : Int) + -1)
            refine (zq_mb2_eq t1).trans ?_
            rw [z1, z2 (by omega)]
        · rw [hp]; exact e2
        · cases z1; rw [hp] at z2; cases z2
      by_cases c1 : zq_tK T n p = 303
      · rw [if_pos c1]
        have R := (zq_tok_R hT p1 p2).2.1 (by omega)
        have R2 := R.2.2 p3
        have ga := zq_tA_ge T n p
        have hNR := zq_frc_NR (P := P) (kd := kd) (ms := []) ho.1 ho.2
        rw [zq_mb2_eq (zq_w_namesOf h hNR), zq_w32i (z := (ns.length : Int)) (by omega) (by omega)]
        have hy : 0 ≤ (zq_tA T n p, zq_tB T n p - zq_tA T n p).1 ∧ 0 ≤ (zq_tA T n p, zq_tB T n p - zq_tA T n p).2 ∧ (zq_tA T n p, zq_tB T n p - zq_tA T n p).1 + (zq_tA T n p, zq_tB T n p - zq_tA T n p).2 ≤ n := ⟨by show 0 ≤ zq_tA T n p; omega, by show 0 ≤ zq_tB T n p - zq_tA T n p; omega, by show zq_tA T n p + (zq_tB T n p - zq_tA T n p) ≤ n; omega⟩
        by_cases c2 : 6 ≤ ns.length
        · rw [if_pos (by omega)]
          exact dead 4 (4, zq_tA T n p) (by omega) rfl (by rw [zq_pNames, if_pos c1, if_pos (Or.inl c2)])
        · rw [if_neg (by omega)]
          have hh := zq_E_hasName h hNR hy fU 0 (by omega) (zq_fU_gt (by have := ho.2; omega))
          rw [List.drop_zero] at hh
          have hh2 : s_QR_hasName c S (P.length : Int) S.lx_at (S.lx_behind - S.lx_at) = some (if ns.any (fun x => zq_nmx T x == zq_nmx T (zq_tA T n p, zq_tB T n p - zq_tA T n p)) = true then 1 else 0, S) := by
            rw [hl.2.1.2.1, hl.2.1.2.2.1]; exact hh
          rw [zq_mb2_eq hh2]
          by_cases c3 : ns.any (fun x => zq_nmx T x == zq_nmx T (zq_tA T n p, zq_tB T n p - zq_tA T n p)) = true
          · rw [if_pos c3, if_neg (by decide)]
            exact dead 4 (4, zq_tA T n p) (by omega) rfl (by rw [zq_pNames, if_pos c1, if_pos (Or.inr c3)])
          · rw [if_neg c3, if_pos (by decide)]
            -- a name comes
            have g2 : (zq_frc P kd ns [])[P.length + 2]? = some (ns.length : Int) := by
              obtain ⟨⟨kd', m', -, -, z, -⟩, -⟩ := hNR; exact z
            obtain ⟨o1, z1, u1, u2⟩ := zq_w_countUp h g2
            have u3 : s_Pg_addName c S (P.length : Int) = some ((), zq_ow S o1 z1) := by
              rw [s_Pg_addName, show (P.length : Int) + 2 = ((P.length + 2 : Nat) : Int) by omega]; exact zq_mb2_eq u1
            rw [zq_mb2_eq u3]
            have hl1 : zq_LV T n (zq_ow S o1 z1) p := hl
            have hlen1 : ((zq_frc P kd ns []).set (P.length + 2) ((ns.length : Int) + 1)).length ≤ 31990 := by rw [List.length_set]; omega
            obtain ⟨c2', o2, z2, v1, v2, v3⟩ := zq_w_pgadd2 u2 hlen1 (zq_tA T n p) (zq_tB T n p)
            rw [zq_frc_addN P kd ns (zq_tA T n p, zq_tB T n p - zq_tA T n p)] at v2
            have v1' : s_Pg_addSlice c (zq_ow S o1 z1) S.lx_at (zq_ow S o1 z1).lx_behind = some ((), c2', zq_ow (zq_ow S o1 z1) o2 z2) := by
              rw [show S.lx_at = zq_tA T n p from hl.2.1.2.1, show (zq_ow S o1 z1).lx_behind = zq_tB T n p from hl.2.1.2.2.1]; exact v1
            have hl2 : zq_LV T n (zq_ow (zq_ow S o1 z1) o2 z2) p := hl
            obtain ⟨k', b, x, a1, a2, a3, a4⟩ := zq_w_adv v2 hl2
            have a4' := a4 (by omega)
            generalize hS3 : zq_lq (zq_ow (zq_ow S o1 z1) o2 z2) k' (zq_tA T n (zq_tB T n p)) b x (zq_ow (zq_ow S o1 z1) o2 z2).qr_faultCode (zq_ow (zq_ow S o1 z1) o2 z2).qr_faultPlace = S3 at a1 a2
            have hP3 : zq_PB k T n c2' S3 (zq_frc P kd (ns ++ [(zq_tA T n p, zq_tB T n p - zq_tA T n p)]) []) := by rw [← hS3]; exact v2
            have hF3 : zq_FR c S c2' S3 := by
              rw [← hS3]; exact zq_FR_trans (zq_FR_ow S o1 z1 ⟨c.oc, c.bc, c.bs, rfl⟩) (zq_FR_trans (zq_FR_ow (zq_ow S o1 z1) o2 z2 v3) (zq_FR_lq _ _ _ _ _ _ _ _))
            have hz3 : S3.pg_size = S.pg_size + 2 := by
              rw [hP3.2.2.2.1, hsz, zq_frc_len, zq_frc_len]; simp; omega
            have ha3 : S3.lx_at = zq_tA T n (zq_tB T n p) := by rw [← hS3]; rfl
            have hcl3 : S3.qr_clashPlace = S.qr_clashPlace := by rw [← hS3]; rfl
            have hat0 : S.lx_at = zq_tA T n p := hl.2.1.2.1
            have hB3 : zq_BD S S3 (-1) := ⟨by omega, by omega, hcl3⟩
            have ho3 : zq_okN n (ns ++ [(zq_tA T n p, zq_tB T n p - zq_tA T n p)]) := ⟨fun y hy' => by
              rcases List.mem_append.mp hy' with z | z
              · exact ho.1 y z
              · simp at z; subst z; exact hy, by simp; omega⟩
            have step : ∃ c' S' ns', q_QR_readNames_124 (q_QR_readNames_10 f) c2' (P.length : Int) ((m + 1 : Nat) : Int) S3 = some ((), c', S') ∧ zq_PB k T n c' S' (zq_frc P kd ns' []) ∧ zq_FR c S c' S' ∧ zq_okN n ns' ∧ zq_QS T n S' (zq_pbd (zq_pNames T n (m + 1) ns p) (fun y => .ok y.1)) ∧ zq_BD S S' 0 ∧ (∀ p' y, Except.ok (ε := zq_PE) p = Except.ok p' → zq_pNames T n (m + 1) ns p' = .ok y → ns' = y.2) := by
              have ep : zq_pNames T n (m + 1) ns p = zq_pbd (zq_pAdv T n p) (fun q => if zq_tK T n q = 44 then zq_pbd (zq_pAdv T n q) (fun q2 => zq_pNames T n m (ns ++ [(zq_tA T n p, zq_tB T n p - zq_tA T n p)]) q2) else .ok (q, ns ++ [(zq_tA T n p, zq_tB T n p - zq_tA T n p)])) := by
                rw [zq_pNames, if_pos c1, if_neg (by rintro (z | z); exact c2 z; exact c3 z)]
              rw [q_QR_readNames_124]
              rcases zq_w_takeComma hP3 a2 with ⟨S4, t1, ⟨q, tq, tk⟩, t3, t4, t5, t6⟩ | ⟨t1, t2⟩
              · rw [zq_mb2_eq t1]
                rw [show ((m + 1 : Nat) : Int) + (-1) = (m : Int) by omega]
                have hB4 := zq_BD_tr hB3 t6
                obtain ⟨c', S', ns', x1, x2, x3, x4, x5, x6, x7⟩ := zq_E_names m f c2' S4 (ns ++ [(zq_tA T n p, zq_tB T n p - zq_tA T n p)]) (zq_pbd (zq_pAdv T n p) (zq_pAdv T n)) (by omega) (by omega) t3 t5 ho3 (by have := hB4.2.1; omega)
                refine ⟨c', S', ns', x1, x2, zq_FR_trans hF3 (zq_FR_trans t4 x3), x4, ?_, zq_BD_le (zq_BD_tr hB4 x6) (by omega), fun p' y z1 z2 => ?_⟩
                · rw [ep, tq]
                  rw [tq] at x5
                  show zq_QS T n S' (zq_pbd (if zq_tK T n q = 44 then _ else _) _)
                  rw [if_pos tk]
                  cases hq : zq_pAdv T n q with
                  | error e => rw [show zq_pbd (Except.ok q) (zq_pAdv T n) = zq_pAdv T n q from rfl, hq] at x5; exact x5
                  | ok q2 => rw [show zq_pbd (Except.ok q) (zq_pAdv T n) = zq_pAdv T n q from rfl, hq] at x5; exact x5
                · cases z1
                  rw [ep, tq] at z2
                  have z3 : (if zq_tK T n q = 44 then zq_pbd (zq_pAdv T n q) (fun q2 => zq_pNames T n m (ns ++ [(zq_tA T n p, zq_tB T n p - zq_tA T n p)]) q2) else .ok (q, ns ++ [(zq_tA T n p, zq_tB T n p - zq_tA T n p)])) = .ok y := z2
                  rw [if_pos tk] at z3
                  cases hq : zq_pAdv T n q with
                  | error e => rw [hq] at z3; cases z3
                  | ok q2 =>
                    rw [hq] at z3
                    refine x7 q2 y ?_ z3
                    rw [tq]; exact hq
              · rw [zq_mb2_eq t1]
                obtain ⟨g, rfl⟩ : ∃ g, f = g + 1 := ⟨f - 1, by omega⟩
                have ex : q_QR_readNames_10 (g + 1) c2' (P.length : Int) 0 (((m + 1 : Nat) : Int) + (-1)) S3 = some ((), c2', S3) := by
                  rw [q_QR_readNames_10]
                  by_cases z : w32 (((m + 1 : Nat) : Int) + (-1)) ≤ 0
                  · rw [if_pos z]
                  · rw [if_neg z, if_pos (by decide)]
                refine ⟨c2', S3, ns ++ [(zq_tA T n p, zq_tB T n p - zq_tA T n p)], ex, hP3, hF3, ho3, ?_, zq_BD_le hB3 (by omega), fun p' y z1 z2 => ?_⟩
                · rw [ep]
                  cases hq : zq_pAdv T n p with
                  | error e => rw [hq] at a2; exact a2
                  | ok q =>
                    rw [hq] at a2
                    show zq_QS T n S3 (zq_pbd (if zq_tK T n q = 44 then _ else _) _)
                    rw [if_neg (t2 q hq)]; exact a2
                · cases z1
                  rw [ep] at z2
                  cases hq : zq_pAdv T n p with
                  | error e => rw [hq] at z2; cases z2
                  | ok q =>
                    rw [hq] at z2
                    have z3 : (if zq_tK T n q = 44 then zq_pbd (zq_pAdv T n q) (fun q2 => zq_pNames T n m (ns ++ [(zq_tA T n p, zq_tB T n p - zq_tA T n p)]) q2) else .ok (q, ns ++ [(zq_tA T n p, zq_tB T n p - zq_tA T n p)])) = .ok y := z2
                    rw [if_neg (t2 q hq)] at z3
                    cases z3; rfl
            obtain ⟨c', S', ns', y1, y2⟩ := step
            refine ⟨c', S', ns', ?_, y2⟩
            refine (zq_mb2_eq (show s_Lx_behind c (zq_ow S o1 z1) = some ((zq_ow S o1 z1).lx_behind, zq_ow S o1 z1) from rfl)).trans ?_
            refine (zq_mb3_eq v1').trans ?_
            refine (zq_mb2_eq a1).trans ?_
            exact y1
      · rw [if_neg c1]
        exact dead 2 (2, zq_tA T n p) (by omega) rfl (by rw [zq_pNames, if_neg c1])
