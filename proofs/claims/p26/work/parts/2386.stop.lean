/-! stop(), reach(), common() answer alike -/
theorem d_164_cg {x0 : Int32} {g g' : G} : ∀ (f : Nat) (y z : Int32), d_164_4 x0 g f y z = d_164_4 x0 g' f y z := by
  intro f
  induction f with
  | zero =>
    intro y z
    rfl
  | succ f ih =>
    intro y z
    rw [d_164_4.eq_2, d_164_4.eq_2, ih]
set_option maxRecDepth 100000 in
theorem cnt_k : ((List.range 256).all fun n => decide (d_164 (Int32.ofNat n) (gh 0) = some (d_190 (Int32.ofNat n))) && decide (0 ≤ (d_190 (Int32.ofNat n)).toInt ∧ (d_190 (Int32.ofNat n)).toInt ≤ 8)) = true := by decide +kernel
theorem cnt_eq {x w : Int32} {m : G} (h : 0 ≤ x.toInt ∧ x.toInt ≤ 255) (f : d_164 x m = some w) : d_190 x = w ∧ 0 ≤ w.toInt ∧ w.toInt ≤ 8 := by
  have c1 : d_164 x m = d_164 x (gh 0) := d_164_cg 300 0 0
  rw [c1, zi_nat (n := x.toInt.toNat) (x := x) (by omega)] at f
  rw [zi_nat (n := x.toInt.toNat) (x := x) (by omega)]
  have k := List.all_eq_true.mp cnt_k x.toInt.toNat (List.mem_range.mpr (by omega))
  rw [Bool.and_eq_true] at k
  have k1 := of_decide_eq_true k.1
  have k2 := of_decide_eq_true k.2
  rw [k1] at f
  have f1 := zb_r1 f
  subst f1
  exact ⟨rfl, k2⟩
theorem RCb.cl {b : Nat} {c c' m : G} (hb : b = 1 ∨ b = 30) (h : RCb b c m) (hc : ∀ r j, r ≠ 25 → r ≠ 26 → r ≠ 27 → c' r j = c r j) : RCb b c' m := by
  have nn := h.nums
  obtain ⟨h1, h2, h3, h4⟩ := h
  exact ⟨(hc b 0 (by omega) (by omega) (by omega)).trans h1, (hc b 1 (by omega) (by omega) (by omega)).trans h2, h3.congr (fun r k hr => hc r k (by omega) (by omega) (by omega)), h4.congr (fun r k hr => hc r k (by omega) (by omega) (by omega)) (fun _ _ _ => rfl)⟩
theorem RCb.up2 {b d j n : Nat} {c m : G} {v : Int32} (h : RCb b c m) (hj : j < 7) (hp : (d : Int) < (c b 2).toInt) (hq : n = 9 + 7 * d + j) (hv : j = 0 ∧ 0 ≤ v.toInt ∧ v.toInt < (c b 0).toInt ∨ j = 5 ∧ 0 ≤ v.toInt ∧ v.toInt ≤ 2 ∨ j = 6 ∧ 0 ≤ v.toInt ∧ v.toInt ≤ 10) : RCb b (zg_up c (b + 8 + d) j v) (zg_up m 114 n v) := by
  subst hq
  obtain ⟨h1, h2, w, r⟩ := h
  have wn := w.1
  unfold Wn at wn
  have uc : ∀ r k, ¬ (r = b + 8 + d ∧ k = j) → zg_up c (b + 8 + d) j v r k = c r k := fun r k hn => zg_un hn
  have um : ∀ r k, ¬ (r = 114 ∧ k = 9 + 7 * d + j) → zg_up m 114 (9 + 7 * d + j) v r k = m r k := fun r k hn => zg_un hn
  have ec : zg_up c (b + 8 + d) j v (b + 8 + d) j = v := zg_ue
  have em : zg_up m 114 (9 + 7 * d + j) v 114 (9 + 7 * d + j) = v := zg_ue
  generalize zg_up c (b + 8 + d) j v = c' at *
  generalize zg_up m 114 (9 + 7 * d + j) v = m' at *
  have u2 : c' b 2 = c b 2 := uc b 2 (by omega)
  refine ⟨?_, ?_, w.up2 (d := d) (by omega) (fun r k hr _ => uc r k (by omega)) (by rw [u2]; omega) (fun q hq _ => by rw [u2] at hq; exact hq) ?_, r.up2 (d := d) w.1 hj (by omega) (fun r k hr => uc r k (by omega)) (fun k hk => um 114 k (by omega)) ?_⟩
  · rw [uc b 0 (by omega), um 113 2 (by omega)]
    exact h1
  · rw [uc b 1 (by omega), um 113 3 (by omega)]
    exact h2
  · have := w.2.2.1 d hp
    unfold Wdeed at *
    rw [uc b 0 (by omega), uc b 1 (by omega), uc (b + 8 + d) 1 (by omega), uc (b + 8 + d) 2 (by omega), uc (b + 8 + d) 3 (by omega), uc (b + 8 + d) 4 (by omega)]
    rcases hv with ⟨rfl, hv⟩ | ⟨rfl, hv⟩ | ⟨rfl, hv⟩
    · rw [ec, uc (b + 8 + d) 5 (by omega), uc (b + 8 + d) 6 (by omega)]
      omega
    · rw [ec, uc (b + 8 + d) 0 (by omega), uc (b + 8 + d) 6 (by omega)]
      omega
    · rw [ec, uc (b + 8 + d) 0 (by omega), uc (b + 8 + d) 5 (by omega)]
      omega
  · rw [show 0 + 9 + 7 * d + j = 9 + 7 * d + j by omega, em]
    exact ec
/-- marks don't count for what is lacking -/
theorem Ok.marks {b : Nat} {c c' : G} (hk : ∀ r k, k ≠ 5 → c' r k = c r k) : Ok b c' = Ok b c := by
  funext d D
  simp only [Ok, Lack, Has, Gives, hk _ 4 (by decide), hk _ 1 (by decide), hk _ 0 (by decide), hk _ 2 (by decide), hk _ 3 (by decide)]
theorem Hangs.cg {b : Nat} {c c' : G} (hO : Ok b c' = Ok b c) (h2 : c' b 2 = c b 2) : Hangs b c' = Hangs b c := by
  funext D
  simp only [Hangs, hO, h2]
theorem Step.cg {b : Nat} {c c' : G} (hO : Ok b c' = Ok b c) (h2 : c' b 2 = c b 2) : Step b c' = Step b c := by
  funext R x y
  simp only [Step, hO, h2]
theorem Great.cg {b : Nat} {c c' : G} (hO : Ok b c' = Ok b c) (h2 : c' b 2 = c b 2) {S R : Int32} (h : Great b c' S R) : Great b c S R := by
  unfold Great Cand at *
  rw [Hangs.cg hO h2] at h
  exact h
theorem St.cg {b : Nat} {c c' : G} {R : Int32} (hS : Step b c' = Step b c) {j : Nat} : ∀ {x : Int32}, St b c' R j x → St b c R j x := by
  induction j with
  | zero => exact fun h => h
  | succ j ih =>
    rintro x ⟨y, h1, h2, h3⟩
    rw [hS] at h2
    exact ⟨y, ih h1, h2, h3⟩
theorem Made.cg {b : Nat} {c c' g : G} {R v : Int32} (hS : Step b c' = Step b c) (h : Made b c' R v g) : Made b c R v g := by
  obtain ⟨j, h1, h2, h3, h4⟩ := h
  rw [hS] at h4
  exact ⟨j, h1, h2, h3.cg hS, h4⟩
/-- how many are left over: both sides the same -/
theorem left_eq {b : Nat} {c c' g m m' m'' : G} {x1 v v' : Int32} (hR : RCb b c m) (hL : Looked b c g) (hR' : RCb b c' m') (hO : Ok b c' = Ok b c) (h2 : c' b 2 = c b 2) (hx : ∀ i, i < 32 → (zbit x1 i = true ↔ (i : Int) < (c b 2).toInt ∧ (c' (b + 8 + i) 5).toInt = 2)) (e : d_11 x1 g = some v) (f : d_166 m' = some (v', m'')) : v = v' ∧ 0 ≤ v.toInt ∧ v.toInt ≤ 8 := by
  unfold d_11 at e
  unfold d_166 at f
  have nn := hR.nums
  replace e := zb_bind e
  obtain ⟨v1, h1, e⟩ := e
  replace f := zb_bind f
  obtain ⟨w1, k1, f⟩ := f
  obtain ⟨w, kw, gw⟩ := t_161 hR' k1
  have gv := t_8 hR hL h1
  have xw : x1 = w := zbit_eq fun i hi => by
    rw [hx i hi, t_157 hR' kw i hi, h2, zl_2]
  have aw : g 25 0 = d_158 m' := by
    rw [hL.2.1]
    unfold d_158
    rw [← hR'.2.2.2.1, h2]
  rw [aw, xw] at gv
  have vw : v1 = w1 := gv.uniq (gw.cg hO h2)
  subst vw
  replace e := zb_bind e
  obtain ⟨v2, k2, e⟩ := e
  replace f := zb_bpair f
  obtain ⟨w2, g3, k3, f⟩ := f
  obtain ⟨j, a1, a2, a3, a4⟩ := (t_163 hR' k3).cg (Step.cg hO h2)
  unfold d_9 at k2
  have h5 := l_9_4 hR.2.2.1 hL 300 0 0 v2 0 (by decide) (by omega) Ch.z k2
  have h6 := a3.ch.stay a4 (8 - j)
  rw [show j + (8 - j) = 8 by omega] at h6
  have vw := h5.uniq h6
  subst vw
  replace f := zb_bind f
  obtain ⟨w4, k4, f⟩ := f
  have ai := all_int hR hL
  have bb := zbit_b8 (x := v1 &&& (v2 ^^^ (-1))) (fun i w => by
    rw [zbit_and, Bool.and_eq_true] at w
    have w := gv.1.1 i w.1
    rw [zbit_and, Bool.and_eq_true, ← aw] at w
    have := day_le hR hL ai.2.1 (Int.le_refl _) i w.1
    omega)
  have cc := cnt_eq bb k4
  have e1 : d_190 (v1 &&& (v2 ^^^ (-1))) = v := zb_r1 e
  have f1 := (zb_r2 f).1
  rw [← e1, ← f1, cc.1]
  exact ⟨rfl, cc.2⟩
theorem l_73 {c g m : G} {x1 : Int32} (hR : RCb 1 c m) (hL : Looked 1 c g) (h2 : g 1 2 = c 1 2) : ∀ (f : Nat) (x2 x3 x4 v v' : Int32) (k : Nat) (g1 mm m' : G), x4.toInt = k → (∀ r j, ¬ (r = 113 ∧ j = 21) → mm r j = m r j) → d_73_41 x1 g f x2 x3 x4 = some (v, g1) → d_167_23 x1 f x3 x2 x4 mm = some (v', m') → v = v' := by
  intro n
  induction n with
  | zero =>
    intro x2 x3 x4 v v' k g1 mm m' _ _ e
    rw [d_73_41.eq_1] at e
    cases e
  | succ n ih =>
    intro x2 x3 x4 v v' k g1 mm m' hx hm e f
    rw [d_73_41.eq_2, h2] at e
    rw [d_167_23.eq_2, hm 114 8 (by omega), ← hR.2.2.2.1] at f
    have L1 := zl_1
    have L2 := zl_2
    have nn := hR.nums
    have hM : RCb 1 c mm := hR.mo (fun r j h => hm r j (by omega))
    rcases zb_if2 Iff.rfl e f with ⟨h1, _, e, f⟩ | ⟨h1, _, e, f⟩
    · rcases zb_if2 Iff.rfl e f with ⟨h1, _, e, f⟩ | ⟨h1, _, e, f⟩
      · rcases zb_if2 Iff.rfl e f with ⟨h1, _, e, f⟩ | ⟨h1, _, e, f⟩
        · exact (zb_r2 e).1.symm.trans (zb_r2 f).1
        · exact (zb_r2 e).1.symm.trans (zb_r2 f).1
      · exact (zb_r2 e).1.symm.trans (zb_r2 f).1
    · have q := zc_geF h1
      have ya := zi_add (x := x4) (y := 1) (by omega) (by omega)
      have yi := zi_idx (x := x4) (o := 5) (n := 5) hx (by omega) (by decide) (by omega)
      replace e := zb_bind e
      obtain ⟨v8, h8, e⟩ := e
      replace f := zb_bpair f
      obtain ⟨w8, g9, h9, f⟩ := f
      obtain ⟨m1, m2⟩ := t_142 (n := 9 + 7 * k + 5) yi h9
      replace f := zb_bpair f
      obtain ⟨w10, g11, h11, f⟩ := f
      have F11 := f_166 g9 (w10, g11) h11
      replace f := zb_bind f
      obtain ⟨k13, h13, f⟩ := f
      have b13 := zm_ix_ko h13
      obtain rfl : k13 = 9 + 7 * k + 5 := by omega
      replace f := zb_let f
      obtain ⟨g12, h12, f⟩ := f
      have same : ∀ r j, ¬ (r = 113 ∧ j = 21) → g12 r j = m r j := by
        intro r j hn
        by_cases hh : r = 114 ∧ j = 9 + 7 * k + 5
        · obtain ⟨rfl, rfl⟩ := hh
          rw [← h12, zg_ue, m1]
          exact hm _ _ hn
        · rw [zg_fr h12 r j hh]
          refine (F11 r j hn).trans ?_
          rw [m2, zg_un hh]
          exact hm r j hn
      have hU : RCb 1 (zg_up c (1 + 8 + k) 5 2) g9 := by
        rw [m2]
        exact hM.up2 (j := 5) (by omega) (by omega) rfl (by omega)
      have uc : ∀ r j, ¬ (r = 1 + 8 + k ∧ j = 5) → zg_up c (1 + 8 + k) 5 2 r j = c r j := fun r j hn => zg_un hn
      have hl := left_eq (x1 := (g 25 2) ||| ((1 : Int32) <<< (x4 &&& 31))) hR hL hU (Ok.marks fun r j hj => uc r j (by omega)) (uc 1 2 (by omega)) (fun i hi => by
        rw [zbit_or, zbit_shl1 hx (by omega) hi, Bool.or_eq_true, decide_eq_true_eq, hL.2.2.2.1 i hi]
        by_cases hik : i = k
        · subst hik
          rw [zg_ue, L2]
          omega
        · rw [uc (1 + 8 + i) 5 (by omega)]
          omega) h8 h11
      have hl := hl.1
      subst hl
      replace e := zb_if e
      replace f := zb_if f
      rcases e with ⟨hc, e⟩ | ⟨hc, e⟩
      · rcases f with ⟨kc, f⟩ | ⟨kc, f⟩
        · rw [kc] at f
          exact ih x2 x3 (x4 + 1) v v' (k + 1) g1 g12 m' (by omega) same e f
        · rw [hc] at kc
          cases kc
      · rcases f with ⟨kc, f⟩ | ⟨kc, f⟩
        · rw [hc] at kc
          cases kc
        · rw [kc] at f
          exact ih x4 v8 (x4 + 1) v v' (k + 1) g1 g12 m' (by omega) same e f
theorem a_73 {x1 v v' : Int32} {g g1 m g2 : G} (_ : Inv g) (_ : Inv m) (hR : Rel g m) (e : d_73 x1 g = some (v, g1)) (f : d_167 x1 m = some (v', g2)) : v = v' := by
  unfold d_73 at e
  unfold d_167 at f
  have nn := hR.rcb.nums
  replace e := zb_let e
  obtain ⟨v3, h3, e⟩ := e
  replace f := zb_let f
  obtain ⟨w3, k3, f⟩ := f
  have i := in01 (x := x1)
  rw [h3, k3] at i
  replace e := zb_if e
  replace f := zb_if f
  rcases e with ⟨hc, e⟩ | ⟨hc, e⟩
  · rcases f with ⟨kc, f⟩ | ⟨kc, f⟩
    · exact absurd hc (i.mp kc)
    · exact (zb_r2 e).1.symm.trans (zb_r2 f).1
  · rcases f with ⟨kc, f⟩ | ⟨kc, f⟩
    · replace e := zb_bind e
      obtain ⟨g5, h5, e⟩ := e
      obtain ⟨hL, hF⟩ := t_2 (Or.inl rfl) hR.rcb.2.2.1 h5
      replace e := zb_bind e
      obtain ⟨v4, h4, e⟩ := e
      replace f := zb_bpair f
      obtain ⟨w4, m4, k4, f⟩ := f
      have F4 := f_166 m (w4, m4) k4
      have hl := left_eq hR.rcb hL hR.rcb rfl rfl (fun i hi => by
        rw [hL.2.2.2.1 i hi]
        omega) h4 k4
      have hl := hl.1
      subst hl
      exact l_73 hR.rcb hL (hF 1 2 (by omega) (by omega) (by omega)) 300 (-4) v4 0 v v' 0 g1 m4 g2 (by decide) (fun r j hn => F4 r j hn) e f
    · exact absurd (i.mpr (by rw [hc]; decide)) (by rw [kc]; decide)
/-! common() -/
theorem zbit_row : ∀ n, n < 32 → ∀ i, i < 32 → zbit ((1 : Int32) <<< (Int32.ofNat n &&& 31)) i = decide (i = n) := zbit_shl
theorem zbit_shlx (x : Int32) {n : Nat} (hn : n < 32) : zbit (x <<< (Int32.ofNat n &&& 31)) n = zbit x 0 := by
  unfold zbit
  rw [Int32.toBitVec_shiftLeft, BitVec.shiftLeft_eq', zbit_sm n hn, BitVec.getLsbD_shiftLeft]
  simp [hn]
theorem l_76 {c g m : G} {x1 x2 x3 x4 : Int32} {p1 p2 t : Nat} (hR : RCb 1 g m) (hp1 : x1.toInt = p1) (hl1 : (p1 : Int) < (g 1 1).toInt) (hp2 : x2.toInt = p2) (hl2 : (p2 : Int) < (g 1 1).toInt) (h3 : x3.toInt = t) (ht : t < 6) : ∀ (f : Nat) (x5 x6 v v' : Int32) (k : Nat) (g1 : G), x6.toInt = k → d_76_69 x1 x2 x3 x4 g f x5 x6 = some (v, g1) → d_170_42 x1 x2 x3 x4 m f x5 x6 = some v' → v = v' := by
  intro n
  induction n with
  | zero =>
    intro x5 x6 v v' k g1 _ e
    rw [d_76_69.eq_1] at e
    cases e
  | succ n ih =>
    intro x5 x6 v v' k g1 hx e f
    rw [d_76_69.eq_2] at e
    rw [d_170_42.eq_2, ← hR.1] at f
    have L1 := zl_1
    have nn := hR.nums
    rcases zb_if2 Iff.rfl e f with ⟨h1, _, e, f⟩ | ⟨h1, _, e, f⟩
    · exact (zb_r2 e).1.symm.trans (zb_r1 f)
    · have q := zc_geF h1
      have ya := zi_add (x := x6) (y := 1) (by omega) (by omega)
      replace e := zb_bind e
      obtain ⟨v11, h11, e⟩ := e
      replace f := zb_bind f
      obtain ⟨w11, k11, f⟩ := f
      have q1 := has_eq hR hp1 hl1 (by omega) h11 k11
      subst q1
      replace e := zb_bind e
      obtain ⟨v12, h12, e⟩ := e
      replace f := zb_bind f
      obtain ⟨w12, k12, f⟩ := f
      have q2 := has_eq hR hp2 hl2 (by omega) h12 k12
      subst q2
      replace e := zb_let e
      obtain ⟨v13, h13, e⟩ := e
      have b13 := b_90n (x0 := v11 &&& v12) h3 (by omega)
      rw [h13] at b13
      have row : ∀ i, i < 32 → (zbit ((((v11 &&& v12) >>> (x3 &&& 31)) <<< (x6 &&& 31)) &&& ((1 : Int32) <<< (x6 &&& 31))) i = true ↔ i = k ∧ zbit (v11 &&& v12) t = true) := by
        intro i hi
        rw [zbit_and, zbit_shl1 hx (by omega) hi, Bool.and_eq_true, decide_eq_true_eq]
        constructor
        · rintro ⟨w, rfl⟩
          rw [zi_nat hx, zbit_shlx _ (by omega), zi_nat h3, zbit_shr _ (by omega)] at w
          exact ⟨rfl, w⟩
        · rintro ⟨rfl, w⟩
          refine ⟨?_, rfl⟩
          rw [zi_nat hx, zbit_shlx _ (by omega), zi_nat h3, zbit_shr _ (by omega)]
          exact w
      replace e := zb_if e
      rcases e with ⟨hc, e⟩ | ⟨hc, e⟩
      · have r := b13.mp hc
        rw [zbit_eq (x := (((v11 &&& v12) >>> (x3 &&& 31)) <<< (x6 &&& 31)) &&& ((1 : Int32) <<< (x6 &&& 31))) (y := (1 : Int32) <<< (x6 &&& 31)) fun i hi => (row i hi).trans (by
          rw [zbit_shl1 hx (by omega) hi, decide_eq_true_eq]
          exact ⟨fun w => w.1, fun w => ⟨w, r⟩⟩)] at f
        exact ih _ (x6 + 1) v v' (k + 1) g1 (by omega) e f
      · have r := zd_no b13 hc
        have z : ∀ y : Int32, y ||| ((((v11 &&& v12) >>> (x3 &&& 31)) <<< (x6 &&& 31)) &&& ((1 : Int32) <<< (x6 &&& 31))) = y := by
          intro y
          refine zbit_eq fun i hi => ?_
          rw [zbit_or, Bool.or_eq_true, row i hi]
          exact ⟨fun w => w.elim id fun w => absurd w.2 r, Or.inl⟩
        rw [z] at f
        exact ih _ (x6 + 1) v v' (k + 1) g1 (by omega) e f
theorem a_76 {x1 x2 x3 v v' : Int32} {g g1 m : G} (_ : Inv g) (_ : Inv m) (hR : Rel g m) (e : d_76 x1 x2 x3 g = some (v, g1)) (f : d_170 x1 x2 x3 m = some v') : v = v' := by
  unfold d_76 at e
  unfold d_170 at f
  have nn := hR.rcb.nums
  rcases zb_if2 (one_eq hR.rcb) e f with ⟨h1, _, e, f⟩ | ⟨_, _, e, f⟩
  · have q1 := b_18.mp h1
    rcases zb_if2 (one_eq hR.rcb) e f with ⟨h2, _, e, f⟩ | ⟨_, _, e, f⟩
    · have q2 := b_18.mp h2
      rcases zb_if2 Iff.rfl e f with ⟨_, _, e, f⟩ | ⟨_, _, e, f⟩
      · exact (zb_r2 e).1.symm.trans (zb_r1 f)
      · rcases zb_if2 (b_91.trans b_134.symm) e f with ⟨h3, _, e, f⟩ | ⟨_, _, e, f⟩
        · have q3 := b_91.mp h3
          replace e := zb_bind e
          obtain ⟨g5, h5, e⟩ := e
          obtain ⟨hL, hF⟩ := t_2 (Or.inl rfl) hR.rcb.2.2.1 h5
          replace e := zb_bind e
          obtain ⟨v9, h9, e⟩ := e
          replace f := zb_bind f
          obtain ⟨w9, k9, f⟩ := f
          have gw := great_eq hR.rcb hL h9 k9
          subst gw
          have n1 := hF 1 1 (by omega) (by omega) (by omega)
          exact l_76 (c := g) (p1 := x1.toInt.toNat) (p2 := x2.toInt.toNat) (t := x3.toInt.toNat) (hR.rcb.cl (Or.inl rfl) hF) (by omega) (by rw [n1]; omega) (by omega) (by rw [n1]; omega) (by omega) (by omega) 300 0 0 v v' 0 g1 (by decide) e f
        · exact (zb_r2 e).1.symm.trans (zb_r1 f)
    · exact (zb_r2 e).1.symm.trans (zb_r1 f)
  · exact (zb_r2 e).1.symm.trans (zb_r1 f)
