/-! what a program decides of every instruction -/
def zk_ln (i : Instr) (n : Nat) : Nat := match i with
  | .bipush _ => 2
  | .sipush _ => 3
  | .ldc _ => 2
  | .ldc_w _ => 3
  | .ldc2_w _ => 3
  | .iload _ => 2
  | .lload _ => 2
  | .aload _ => 2
  | .istore _ => 2
  | .lstore _ => 2
  | .astore _ => 2
  | .iinc _ _ => 3
  | .ifCond _ _ => 3
  | .if_icmp _ _ => 3
  | .goto _ => 3
  | .tableswitch _ _ _ _ => n
  | .lookupswitch _ _ => n
  | .getfield _ => 3
  | .getstatic _ => 3
  | .putfield _ => 3
  | .new _ => 3
  | .newarray _ => 2
  | .anewarray _ => 3
  | .invokevirtual _ => 3
  | .invokespecial _ => 3
  | .invokestatic _ => 3
  | _ => 1
def zk_b (j pc : Nat) (x : XI) : Bool := match x.1 with
  | .ldc k => bif Nat.beq x.2.2.2 0 then zk_has zk_e3 z_kc (z_O j, k, x.2.2.1) else zk_has zk_e3 z_ls (z_O j, k, x.2.2.1) && Nat.blt x.2.2.1 9
  | .getstatic k => Nat.blt x.2.2.1 2 && zk_has zk_e3 z_gs (z_O j, k, x.2.2.1)
  | .ldc_w k => zk_has zk_e3 z_kc (z_O j, k, x.2.2.1)
  | .ldc2_w k => zk_has zk_e3 z_kl (z_O j, k, x.2.2.1)
  | .ifCond _ off => decide (0 ≤ (pc : Int) + off)
  | .if_icmp _ off => decide (0 ≤ (pc : Int) + off)
  | .goto off => decide (0 ≤ (pc : Int) + off)
  | .tableswitch d _ _ os => decide (0 ≤ (pc : Int) + d) && os.toList.all (fun off => decide (0 ≤ (pc : Int) + off))
  | .lookupswitch d ps => (ps.toList.zip (ps.toList.drop 1)).all (fun (a, next) => a.1 < next.1) && decide (0 ≤ (pc : Int) + d) && ps.toList.all (fun q => decide (0 ≤ (pc : Int) + q.2))
  | .getfield k => bif Nat.beq x.2.2.1 90 then Nat.blt x.2.2.2 2 && zk_has zk_e3 z_sf (z_O j, k, x.2.2.2) else Nat.blt x.2.2.1 9 && Nat.blt x.2.2.2 (z_dv x.2.2.1).length && zk_has zk_e4 z_fl (z_O j, k, x.2.2.1, x.2.2.2) && decide ((z_F x.2.2.1 x.2.2.2).1 = z_cn x.2.2.1)
  | .putfield k => Nat.blt x.2.2.1 9 && Nat.blt x.2.2.2 (z_dv x.2.2.1).length && zk_has zk_e4 z_fl (z_O j, k, x.2.2.1, x.2.2.2) && decide ((z_F x.2.2.1 x.2.2.2).1 = z_cn x.2.2.1) && (!(z_F x.2.2.1 x.2.2.2).2.2.2 || (Nat.beq (z_K j) 2 && Nat.beq x.2.2.1 (z_O j)))
  | .new k => Nat.blt x.2.2.1 9 && zk_has zk_e3 z_cl (z_O j, k, x.2.2.1)
  | .anewarray k => zm_rt x.2.2.1 && zk_has zk_e3 z_aq (z_O j, k, x.2.2.1)
  | .invokevirtual k => Nat.beq (z_K x.2.2.1) 1 && Nat.beq x.2.2.2 (z_N x.2.2.1 + 1) && Nat.blt 0 x.2.2.1 && Nat.blt x.2.2.1 z_nM && !Nat.beq x.2.2.1 z_law && (zk_has zk_e3 z_ml (z_O j, k, x.2.2.1) || zk_has zk_e3 z_mn (z_O j, k, x.2.2.1))
  | .invokespecial k => bif Nat.beq x.2.2.1 0 then Nat.beq x.2.2.2 1 && zk_has zk_e2 z_oi (z_O j, k) else Nat.beq (z_K x.2.2.1) 2 && Nat.beq x.2.2.2 (z_N x.2.2.1 + 1) && Nat.blt x.2.2.1 z_nM && !Nat.beq x.2.2.1 z_law && (zk_has zk_e3 z_ml (z_O j, k, x.2.2.1) || zk_has zk_e3 z_mn (z_O j, k, x.2.2.1))
  | .invokestatic k => Nat.beq (z_K x.2.2.1) 0 && Nat.beq x.2.2.2 (z_N x.2.2.1) && Nat.blt 0 x.2.2.1 && Nat.blt x.2.2.1 z_nM && !Nat.beq x.2.2.1 z_law && (zk_has zk_e3 z_ml (z_O j, k, x.2.2.1) || zk_has zk_e3 z_mn (z_O j, k, x.2.2.1))
  | _ => true
/-- all instructions of a piece of code, from a place on -/
def zk_ch (j : Nat) (B : ByteArray) : Nat → List (Option XI) → Bool
  | _, [] => true
  | pc, none :: r => zk_ch j B (pc + 1) r
  | pc, some x :: r => decide (decode B pc = .ok (x.1, zk_ln x.1 x.2.1)) && zk_b j pc x && zk_ch j B (pc + 1) r
theorem zk_ch_s {j : Nat} {B : ByteArray} : ∀ (l : List (Option XI)) (pc : Nat), zk_ch j B pc l = true → ∀ (k : Nat) (x : XI), l[k]? = some (some x) → decode B (pc + k) = .ok (x.1, zk_ln x.1 x.2.1) ∧ zk_b j (pc + k) x = true
  | [], _, _, k, x, hk => by simp at hk
  | none :: r, pc, h, 0, x, hk => by simp at hk
  | none :: r, pc, h, k + 1, x, hk => by
    have := zk_ch_s r (pc + 1) h k x (by simpa using hk)
    rw [show pc + (k + 1) = pc + 1 + k by omega]
    exact this
  | some y :: r, pc, h, 0, x, hk => by
    simp only [zk_ch, Bool.and_eq_true, decide_eq_true_eq] at h
    simp at hk
    subst hk
    exact h.1
  | some y :: r, pc, h, k + 1, x, hk => by
    simp only [zk_ch, Bool.and_eq_true] at h
    have := zk_ch_s r (pc + 1) h.2 k x (by simpa using hk)
    rw [show pc + (k + 1) = pc + 1 + k by omega]
    exact this
def zk_chs (j : Nat) (B : ByteArray) : Nat → List (List (Option XI)) → Bool
  | _, [] => true
  | c, l :: r => zk_ch j B (32 * c) l && zk_chs j B (c + 1) r
theorem zk_chs_c {j c : Nat} {B : ByteArray} {l : List (Option XI)} {r : List (List (Option XI))} (h1 : zk_ch j B (32 * c) l = true) (h2 : zk_chs j B (c + 1) r = true) : zk_chs j B c (l :: r) = true := by
  show (zk_ch j B (32 * c) l && zk_chs j B (c + 1) r) = true
  rw [h1, h2]
  rfl
theorem zk_chs_s {j : Nat} {B : ByteArray} : ∀ (ls : List (List (Option XI))) (c : Nat), zk_chs j B c ls = true → ∀ (k : Nat) (l : List (Option XI)), ls[k]? = some l → zk_ch j B (32 * (c + k)) l = true
  | [], _, _, k, l, hk => by simp at hk
  | a :: r, c, h, 0, l, hk => by
    simp only [zk_chs, Bool.and_eq_true] at h
    simp at hk
    subst hk
    exact h.1
  | a :: r, c, h, k + 1, l, hk => by
    simp only [zk_chs, Bool.and_eq_true] at h
    have := zk_chs_s r (c + 1) h.2 k l (by simpa using hk)
    rw [show c + (k + 1) = c + 1 + k by omega]
    exact this
