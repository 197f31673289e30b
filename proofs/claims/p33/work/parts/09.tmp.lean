theorem zk_h : ∀ {j : Nat} {l : List (List (Option XI))}, z_P[j]? = some l → zk_chs j (z_B j) 0 l = true := sorry
