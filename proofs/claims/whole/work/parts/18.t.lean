/-! A TRY of the evaluation. -/
section GT2
variable {X : Int → Int} {LX d bc bs : Nat} {n : Nat} {K : gm_K} {R : gm_R} {M : gm_M} {Q Q' : gm_Q}
def gm_O0 : gm_Or := (fun _ => none, fun _ _ => none, fun _ _ => none)
theorem gm_E0 {O : gm_Or} : gm_OkE O X LX [] := fun _ _ _ _ _ _ h => nomatch h
theorem gm_P0 {O : gm_Or} : gm_OkP O X LX [] := fun _ _ _ _ h => nomatch h
theorem gm_t2 {k : Nat} {a b : Int} (hd : 1 ≤ d) (hk : 1 ≤ k ∧ k ≤ n ∧ (K k).1 = 6) (hF : gm_Fx gm_O0 n K R M) (ha : 0 ≤ a * b ∧ a * b < 60000000) (hbc : 1 ≤ bc) (hbs : (a * b).toNat ≤ bs) (hq : Q (.inl none) (n + 1) (gm_nK K n 0 (a * b).toNat) (gm_uR (gm_nR R n) k 2 (n + 1)) (gm_nM (gm_uM (gm_uM (gm_uM M k 3 0) k 0 a) k 1 b) n)) : gm_Wp X LX (d + 1) bc bs 2 0 (gm_ent 2 [gm_vr k, gm_vi a, gm_vi b]) [] n K R M (gm_Q2 gm_O0 Q) := by
  refine gm_wx_s (cuts := []) rfl gm_E0 gm_P0 20 true bc bs 0 _ _ n K R M hF ?_
  refine And.intro hk.1 ?_
  refine And.intro hk ?_
  refine And.intro hk ?_
  refine And.intro hk ?_
  refine And.intro ⟨ha.1, ha.2, hbc, hbs⟩ ?_
  refine And.intro ⟨hk.1, Nat.le_succ_of_le hk.2.1, ?_⟩ ?_
  · show (gm_nK K n 0 (a * b).toNat k).1 = 6
    unfold gm_nK
    rw [if_neg (by omega)]
    exact hk.2.2
  exact hq
end GT2
