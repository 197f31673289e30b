theorem zk_h : ∀ {j : Nat} {l : List (Option XI)}, z_P[j]? = some l → zk_ch j (z_B j) 0 l = true := sorry
