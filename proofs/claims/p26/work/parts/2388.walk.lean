/-! walk() answers alike -/
theorem zbit_l15 : ∀ i, i < 32 → zbit 32767 i = decide (i < 15) := by decide +kernel
theorem zs_16 : ((16 : Int32).toBitVec.smod 32).toNat = 16 := by decide
theorem zs_u16 : ((Int32.toUInt32 16 &&& Int32.toUInt32 31).toBitVec % 32).toNat = 16 := by decide
/-- the number that is drawn, on both sides -/
theorem draw_eq (x : Int32) : ((Int32.toUInt32 x >>> (Int32.toUInt32 16 &&& Int32.toUInt32 31)).toInt32) &&& 32767 = (x >>> (16 : Int32)) &&& 32767 := by
  apply zbit_ext
  intro i hi
  rw [zbit_and, zbit_and, zbit_l15 i hi]
  by_cases h : i < 15
  · rw [decide_eq_true h, Bool.and_true, Bool.and_true]
    have a : zbit (x >>> (16 : Int32)) i = zbit x (16 + i) := by
      unfold zbit
      rw [Int32.toBitVec_shiftRight, BitVec.sshiftRight_eq', BitVec.getLsbD_sshiftRight, zs_16]
      simp [show i < 32 by omega, show 16 + i < 32 by omega]
    have b : zbit ((Int32.toUInt32 x >>> (Int32.toUInt32 16 &&& Int32.toUInt32 31)).toInt32) i = zbit x (16 + i) := by
      unfold zbit
      rw [UInt32.toBitVec_toInt32, UInt32.toBitVec_shiftRight, BitVec.ushiftRight_eq', BitVec.getLsbD_ushiftRight, zs_u16]
      rfl
    rw [a, b]
  · rw [decide_eq_false h, Bool.and_false, Bool.and_false]
theorem l_82 {c g m : G} {x2 : Int32} (hR : RCb 1 c m) (hL : Looked 1 c g) (hn : 0 < (c 1 2).toInt) : ∀ (f : Nat) (x4 x5 x6 v v' : Int32) (g1 : G), d_82_48 x2 (c 1 2) g f x4 x5 x6 = some (v, g1) → d_179_35 x2 m f x4 x5 x6 = some v' → v = v' := by
  intro n
  induction n with
  | zero =>
    intro x4 x5 x6 v v' g1 e
    rw [d_82_48.eq_1] at e
    cases e
  | succ n ih =>
    intro x4 x5 x6 v v' g1 e f
    rw [d_82_48.eq_2] at e
    rw [d_179_35.eq_2, ← hR.2.2.2.1] at f
    generalize (x4 * 1103515245) + 12345 = z at e f
    rw [draw_eq z] at e
    have nn := hR.nums
    have L0 := zl_0
    have L2 := zl_2
    have L32767 := zl_32767
    have ya := zi_and (x := z >>> (16 : Int32)) (y := 32767) (by omega)
    generalize (z >>> (16 : Int32)) &&& 32767 = y at e f ya
    have yr := zi_rem (x := y) (y := c 1 2) (by omega) hn
    generalize y - y / (c 1 2) * (c 1 2) = r at e f yr
    obtain ⟨d, hd⟩ : ∃ d : Nat, r.toInt = d := ⟨r.toInt.toNat, by omega⟩
    rcases zb_if2 Iff.rfl e f with ⟨h1, _, e, f⟩ | ⟨h1, _, e, f⟩
    · exact (zb_r2 e).1.symm.trans (zb_r1 f)
    · rcases zb_if2 Iff.rfl e f with ⟨h1, _, e, f⟩ | ⟨h1, _, e, f⟩
      · cases e
      · rw [t_136 hd (by omega) (show (5 : Int32).toInt = (5 : Nat) from by decide) (by omega), ← hR.deeds (d := d) (by omega) (show 5 < 7 by omega)] at f
        replace e := zb_let e
        obtain ⟨v7, h7, e⟩ := e
        have b7 := b_90n (x0 := g 25 2) hd (by omega)
        rw [h7, hL.2.2.2.1 d (by omega)] at b7
        have or0 : ∀ w : Int32, w ||| ((0 : Int32) <<< (r &&& 31)) = w := by
          intro w
          rw [zi_nat hd, zbit_shl0 d (by omega)]
          apply zbit_ext
          intro i _
          rw [zbit_or, zbit_0, Bool.or_false]
        have f : (bif zm_cmp .eq (c (1 + 8 + d) 5) 2 then d_179_35 x2 m n z (x5 ||| ((0 : Int32) <<< (r &&& 31))) (x6 + 1) else Option.bind (d_151 r x5 m) fun v9 => bif zm_cmp .ne v9 0 then d_179_35 x2 m n z (x5 ||| ((0 : Int32) <<< (r &&& 31))) (x6 + 1) else d_179_35 x2 m n z (x5 ||| ((1 : Int32) <<< (r &&& 31))) (x6 + 1)) = some v' := f
        rw [or0] at f
        replace e := zb_if e
        replace f := zb_if f
        rcases e with ⟨hc, e⟩ | ⟨hc, e⟩
        · have q := b7.mp hc
          rcases f with ⟨kc, f⟩ | ⟨kc, f⟩
          · exact ih z x5 (x6 + 1) v v' g1 e f
          · have := zc_eqF kc
            exfalso
            omega
        · have q := zd_no b7 hc
          rcases f with ⟨kc, f⟩ | ⟨kc, f⟩
          · have := zc_eqT kc
            exfalso
            omega
          · replace e := zb_bind e
            obtain ⟨v9, h9, e⟩ := e
            replace f := zb_bind f
            obtain ⟨w9, k9, f⟩ := f
            have := lack_eq hR hL hd (by omega) h9 k9
            subst this
            rcases zb_if2 Iff.rfl e f with ⟨h1, _, e, f⟩ | ⟨h1, _, e, f⟩
            · exact ih z x5 (x6 + 1) v v' g1 e f
            · exact ih z _ (x6 + 1) v v' g1 e f
theorem a_82 {x1 x2 v v' : Int32} {g g1 m : G} (_ : Inv g) (_ : Inv m) (hR : Rel g m) (e : d_82 x1 x2 g = some (v, g1)) (f : d_179 x1 x2 m = some v') : v = v' := by
  unfold d_82 at e
  unfold d_179 at f
  have nn := hR.rcb.nums
  have L0 := zl_0
  have L1 := zl_1
  have L60 : (60 : Int32).toInt = 60 := by decide
  have J1 : (1 : Int64).toInt = 1 := by decide
  have J60 : (60 : Int64).toInt = 60 := by decide
  have i := zin_a (x1 := x2) J1 J60
  replace f := zb_let f
  obtain ⟨w1, k1, f⟩ := f
  rw [k1] at i
  replace e := zb_if e
  replace f := zb_if f
  rcases e with ⟨hc, e⟩ | ⟨hc, e⟩
  · have q := zc_ltT hc
    rcases f with ⟨kc, f⟩ | ⟨kc, f⟩
    · have := i.mp kc
      exfalso
      omega
    · exact (zb_r2 e).1.symm.trans (zb_r1 f)
  · have q := zc_ltF hc
    replace e := zb_if e
    rcases e with ⟨hc, e⟩ | ⟨hc, e⟩
    · have q1 := zc_leT hc
      rcases f with ⟨kc, f⟩ | ⟨kc, f⟩
      · rw [← hR.rcb.2.2.2.1] at f
        rcases zb_if2 Iff.rfl e f with ⟨h1, _, e, f⟩ | ⟨h1, _, e, f⟩
        · have h1 := zc_neT h1
          replace e := zb_bind e
          obtain ⟨g3, h3, e⟩ := e
          obtain ⟨hL, _⟩ := t_2 (Or.inl rfl) hR.rcb.2.2.1 h3
          exact l_82 hR.rcb hL (by omega) 300 x1 0 0 v v' g1 e f
        · exact (zb_r2 e).1.symm.trans (zb_r1 f)
      · have := zd_no i kc
        exfalso
        omega
    · have q1 := zc_leF hc
      rcases f with ⟨kc, f⟩ | ⟨kc, f⟩
      · have := i.mp kc
        exfalso
        omega
      · exact (zb_r2 e).1.symm.trans (zb_r1 f)
