/-! THE CLASS'S READER OF A VALLEY (laid by wip/core/v2.py). -/
/-- the words stand on a token -/
noncomputable def VW (f : Int → Int) (e b w : Int) (M : gm_M) : Prop := M 2 = f ∧ (M 214 1 = 4 ∧ M 213 1 = 14 ∧ M 214 2 = e) ∧ M 214 3 = tx_s f e b ∧ M 214 4 = b ∧ M 214 5 = w ∧ M 214 6 = tx_k f e b ∧ M 214 7 = tx_v f e 4 b
noncomputable def VF (f : Int → Int) (e : Int) : Prop := (0 ≤ e ∧ e ≤ 400) ∧ ∀ j, 0 ≤ j → j < 400 → -128 ≤ f j ∧ f j ≤ 127
section VWS
variable {X : Int → Int} {LX d bc bs n : Nat} {K : gm_K} {R : gm_R} {M M2 : gm_M} {Q : gm_Q} {f : Int → Int} {e b w b2 w2 lo hi x : Int} {W : List (Nat × Option Int)} {c : Nat} {l : List Int}
theorem vw_fr (h : VW f e b w M) (h9 : fr W M M2) (hw : W.all (fun w => !(w.1 == 2) && !(w.1 == 213) && !(w.1 == 214)) = true) : VW f e b w M2 := by
  have k : ∀ c : Nat, c = 2 ∨ c = 213 ∨ c = 214 → ∀ j, M2 c j = M c j := fun c hc j => h9 c j (fun hm => by have := List.all_eq_true.mp hw _ hm; simp at this; omega) (fun hm => by have := List.all_eq_true.mp hw _ hm; simp at this; omega)
  obtain ⟨h1, ⟨h2, h3, h4⟩, h5, h6, h7, h8, h0⟩ := h
  exact ⟨(funext (k 2 (Or.inl rfl))).trans h1, ⟨(k 214 (Or.inr (Or.inr rfl)) 1).trans h2, (k 213 (Or.inr (Or.inl rfl)) 1).trans h3, (k 214 (Or.inr (Or.inr rfl)) 2).trans h4⟩, (k 214 (Or.inr (Or.inr rfl)) 3).trans h5, (k 214 (Or.inr (Or.inr rfl)) 4).trans h6, (k 214 (Or.inr (Or.inr rfl)) 5).trans h7, (k 214 (Or.inr (Or.inr rfl)) 6).trans h8, (k 214 (Or.inr (Or.inr rfl)) 7).trans h0⟩
theorem vw_E (hE : E0 n K R) (hF : VF f e) (h : VW f e b w M) : vE n K R M e := by
  obtain ⟨rfl, ⟨h2, -, h4⟩, -⟩ := h
  exact ⟨⟨e0a hE (k := 2) (q := ((1 : Nat), (400 : Nat))) (by decide +kernel), e0a hE (k := 214) (q := ((12 : Nat), (0 : Nat))) (by decide +kernel)⟩, ⟨e0r hE (k := 214) (j := 0) (r := 2) (by decide +kernel), h2⟩, ⟨h4, hF.1⟩, hF.2⟩
theorem vw_vt (h : VW f e b w M) : vt M e b w = M := by
  obtain ⟨h1, -, h3, h4, h5, h6, h7⟩ := h
  have := vm_id (M := M)
  rw [h3, h4, h5, h6, h7] at this
  unfold vt
  rw [h1]
  exact this
theorem vt_fr : fr [((214 : Nat), some (3 : Int)), ((214 : Nat), some (4 : Int)), ((214 : Nat), some (5 : Int)), ((214 : Nat), some (6 : Int)), ((214 : Nat), some (7 : Int))] M (vt M e b w) := by
  intro c j h1 h2
  unfold vt vm
  by_cases hc : c = 214
  · subst hc
    simp at h2
    rw [if_pos rfl, if_neg (by omega), if_neg (by omega), if_neg (by omega), if_neg (by omega), if_neg (by omega)]
  · rw [if_neg hc]
theorem vt_VW (h : VW f e b w M) : VW f e b2 w2 (vt M e b2 w2) := by
  obtain ⟨rfl, ⟨h2, h3, h4⟩, -⟩ := h
  exact ⟨rfl, ⟨h2, h3, h4⟩, rfl, rfl, rfl, rfl, rfl⟩
theorem vw_76 (hd : 1 ≤ d) (hE : E0 n K R) (hF : VF f e) (hV : VW f e b w M) (hb : 0 ≤ b ∧ b ≤ e) (hq : ∀ M2, fr [((214 : Nat), some (3 : Int)), ((214 : Nat), some (4 : Int)), ((214 : Nat), some (5 : Int)), ((214 : Nat), some (6 : Int)), ((214 : Nat), some (7 : Int))] M M2 → VW f e (tx_n f e b) w M2 → Q (.inl none) n K R M2) : gm_Wp X LX d bc bs 76 0 (gm_ent 76 [gm_vr 214]) [] n K R M Q := by
  have g := vx_c76 (X := X) (LX := LX) (bc := bc) (bs := bs) (w := w) (Q := Q) hd (vw_E hE hF hV) hb (by rw [hV.1]; exact hq _ vt_fr (vt_VW hV))
  rw [vw_vt hV] at g
  exact g
theorem vw_93 (hE : E0 n K R) (hF : VF f e) (hV : VW f e b (-1) M) (hb : 0 ≤ b ∧ b ≤ e) (hq : ∀ M2, fr [((214 : Nat), some (3 : Int)), ((214 : Nat), some (4 : Int)), ((214 : Nat), some (5 : Int)), ((214 : Nat), some (6 : Int)), ((214 : Nat), some (7 : Int))] M M2 → VW f e b b M2 → Q (.inl (some (gm_vi 0))) n K R M2) : gm_Wp X LX d bc bs 93 0 (gm_ent 93 [gm_vr 214]) [] n K R M Q := by
  have g := vx_c93 (X := X) (LX := LX) (d := d) (bc := bc) (bs := bs) (Q := Q) (vw_E hE hF hV) hb (hq _ vt_fr (vt_VW hV))
  rw [vw_vt hV] at g
  exact g
theorem vw_94 (hd : 2 ≤ d) (hE : E0 n K R) (hF : VF f e) (hV : VW f e b (-1) M) (hlo : gm_ir lo) (hhi : gm_ir hi) (hb : 0 ≤ b ∧ b ≤ e) (h1 : vn f e lo hi b → ∀ M2, fr [((214 : Nat), some (3 : Int)), ((214 : Nat), some (4 : Int)), ((214 : Nat), some (5 : Int)), ((214 : Nat), some (6 : Int)), ((214 : Nat), some (7 : Int))] M M2 → VW f e (tx_n f e b) (-1) M2 → Q (.inl (some (gm_vi (tx_v f e 4 b)))) n K R M2) (h0 : ¬ vn f e lo hi b → ∀ M2, fr [((214 : Nat), some (3 : Int)), ((214 : Nat), some (4 : Int)), ((214 : Nat), some (5 : Int)), ((214 : Nat), some (6 : Int)), ((214 : Nat), some (7 : Int))] M M2 → VW f e b b M2 → Q (.inl (some (gm_vi (-1)))) n K R M2) : gm_Wp X LX d bc bs 94 0 (gm_ent 94 [gm_vr 214, gm_vi lo, gm_vi hi]) [] n K R M Q := by
  have g := vx_c94 (X := X) (LX := LX) (bc := bc) (bs := bs) (Q := Q) hd (vw_E hE hF hV) hlo hhi hb (fun k1 k2 k3 => by rw [hV.1] at k1 k2 k3 ⊢; exact h1 ⟨k1, k2, k3⟩ _ vt_fr (vt_VW hV)) (fun k1 => by rw [hV.1] at k1; exact h0 k1 _ vt_fr (vt_VW hV))
  rw [vw_vt hV] at g
  exact g
theorem vw_95 (hd : 6 ≤ d) (hE : E0 n K R) (hF : VF f e) (hV : VW f e b w M) (hc : c < 75) (hl : tx_o c = l) (hb : 0 ≤ b ∧ b ≤ e) (h1 : tx_is f e b l → ∀ M2, fr [((214 : Nat), some (3 : Int)), ((214 : Nat), some (4 : Int)), ((214 : Nat), some (5 : Int)), ((214 : Nat), some (6 : Int)), ((214 : Nat), some (7 : Int))] M M2 → VW f e (tx_n f e b) w M2 → Q (.inl (some (gm_vi 1))) n K R M2) (h0 : ¬ tx_is f e b l → ∀ M2, fr [((214 : Nat), some (3 : Int)), ((214 : Nat), some (4 : Int)), ((214 : Nat), some (5 : Int)), ((214 : Nat), some (6 : Int)), ((214 : Nat), some (7 : Int))] M M2 → VW f e b w M2 → Q (.inl (some (gm_vi 0))) n K R M2) : gm_Wp X LX d bc bs 95 0 (gm_ent 95 [gm_vr 214, gm_vo c]) [] n K R M Q := by
  have g := vx_c95 (X := X) (LX := LX) (bc := bc) (bs := bs) (w := w) (Q := Q) hd (vw_E hE hF hV) hc hl hb (fun k1 => by rw [hV.1] at k1 ⊢; exact h1 k1 _ vt_fr (vt_VW hV)) (fun k1 => by rw [hV.1] at k1; exact h0 k1 _ vt_fr (vt_VW hV))
  rw [vw_vt hV] at g
  exact g
theorem vw_81 (hd : 5 ≤ d) (hE : E0 n K R) (hF : VF f e) (hV : VW f e b w M) (hc : c < 75) (hl : tx_o c = l) (hb : 0 ≤ b ∧ b ≤ e) (h1 : tx_is f e b l → Q (.inl (some (gm_vi 1))) n K R M) (h0 : ¬ tx_is f e b l → Q (.inl (some (gm_vi 0))) n K R M) : gm_Wp X LX d bc bs 81 0 (gm_ent 81 [gm_vr 214, gm_vo c]) [] n K R M Q := by
  have g := vx_c81 (X := X) (LX := LX) (bc := bc) (bs := bs) (w := w) (Q := Q) hd (vw_E hE hF hV) hc hl hb (fun k1 => by rw [hV.1] at k1; rw [vw_vt hV]; exact h1 k1) (fun k1 => by rw [hV.1] at k1; rw [vw_vt hV]; exact h0 k1)
  rw [vw_vt hV] at g
  exact g
theorem vw_98 (hd : 2 ≤ d) (hE : E0 n K R) (hF : VF f e) (hV : VW f e b (-1) M) (hx : gm_ir x) (hb : 0 ≤ b ∧ b ≤ e) (h1 : tx_k f e b = x → ∀ M2, fr [((214 : Nat), some (3 : Int)), ((214 : Nat), some (4 : Int)), ((214 : Nat), some (5 : Int)), ((214 : Nat), some (6 : Int)), ((214 : Nat), some (7 : Int))] M M2 → VW f e (tx_n f e b) (-1) M2 → Q (.inl (some (gm_vi 1))) n K R M2) (h0 : ¬ tx_k f e b = x → ∀ M2, fr [((214 : Nat), some (3 : Int)), ((214 : Nat), some (4 : Int)), ((214 : Nat), some (5 : Int)), ((214 : Nat), some (6 : Int)), ((214 : Nat), some (7 : Int))] M M2 → VW f e b b M2 → Q (.inl (some (gm_vi 0))) n K R M2) : gm_Wp X LX d bc bs 98 0 (gm_ent 98 [gm_vr 214, gm_vi x]) [] n K R M Q := by
  have g := vx_c98 (X := X) (LX := LX) (bc := bc) (bs := bs) (Q := Q) hd (vw_E hE hF hV) hx hb (fun k1 => by rw [hV.1] at k1 ⊢; exact h1 k1 _ vt_fr (vt_VW hV)) (fun k1 => by rw [hV.1] at k1; exact h0 k1 _ vt_fr (vt_VW hV))
  rw [vw_vt hV] at g
  exact g
theorem vw_121 (hE : E0 n K R) (hF : VF f e) (hV : VW f e b w M) (hq : Q (.inl (some (gm_vi w))) n K R M) : gm_Wp X LX d bc bs 121 0 (gm_ent 121 [gm_vr 214]) [] n K R M Q := by
  have g := vx_c121 (X := X) (LX := LX) (d := d) (bc := bc) (bs := bs) (b := b) (w := w) (Q := Q) (vw_E hE hF hV) (by rw [vw_vt hV]; exact hq)
  rw [vw_vt hV] at g
  exact g
/-- the draft, by what is told -/
theorem cs_frd (h9 : fr W M M2) (hw : W.all (fun w => !(decide (16 ≤ w.1) && decide (w.1 ≤ 28))) = true) : cs M2 16 = cs M 16 := cs_same fun x j x1 x2 => h9 x j (fun hm => by have := List.all_eq_true.mp hw _ hm; simp at this; omega) (fun hm => by have := List.all_eq_true.mp hw _ hm; simp at this; omega)
theorem dr_0 {N : Int → Int} (h : cs M 16 = N) : M 16 0 = N 0 := by rw [← h]; exact (cs_pl (M := M) (b := 16) (i := 0) (by decide)).symm
theorem dr_1 {N : Int → Int} (h : cs M 16 = N) : M 16 1 = N 1 := by rw [← h]; exact (cs_pl (M := M) (b := 16) (i := 1) (by decide)).symm
theorem dr_2 {N : Int → Int} (h : cs M 16 = N) : M 17 3 = N 2 := by rw [← h]; exact (cs_pl (M := M) (b := 16) (i := 2) (by decide)).symm
theorem dr_3 {N : Int → Int} (h : cs M 16 = N) : M 21 3 = N 3 := by rw [← h]; exact (cs_pl (M := M) (b := 16) (i := 3) (by decide)).symm
theorem dr_4 {N : Int → Int} (h : cs M 16 = N) : M 23 3 = N 4 := by rw [← h]; exact (cs_pl (M := M) (b := 16) (i := 4) (by decide)).symm
theorem dr_5 {N : Int → Int} (h : cs M 16 = N) : M 19 3 = N 5 := by rw [← h]; exact (cs_pl (M := M) (b := 16) (i := 5) (by decide)).symm
theorem dr_6 {N : Int → Int} (h : cs M 16 = N) : M 25 3 = N 6 := by rw [← h]; exact (cs_pl (M := M) (b := 16) (i := 6) (by decide)).symm
theorem dr_9 {N : Int → Int} (h : cs M 16 = N) : M 16 6 = N 9 := by rw [← h]; exact (cs_pl (M := M) (b := 16) (i := 9) (by decide)).symm
theorem dr_aS {N : Int → Int} {j : Int} (h : cs M 16 = N) (h0 : 0 ≤ j) (h1 : j < 56) : M 18 j = N (15 + j) := by
  rw [← h, cs_pl (M := M) (b := 16) (i := 15 + j) ⟨by omega, by omega, by omega⟩]
  unfold pl
  rw [if_neg (by omega), if_pos (by omega)]
  show M 18 j = M 18 (15 + j - 15)
  rw [show 15 + j - 15 = j by omega]
end VWS
section VR
variable {X : Int → Int} {LX d bc bs n : Nat} {K : gm_K} {R : gm_R} {M M2 : gm_M} {Q : gm_Q} {f : Int → Int} {e b w b2 w2 lo hi x : Int} {N : Int → Int} {c : Nat} {l : List Int}
theorem cs_th16_fr {M : gm_M} {f t l r : Int} : fr [((23 : Nat), some (3 : Int)), ((24 : Nat), none)] M (cs_th16 M f t l r) := by
  unfold cs_th16
  exact fr_p (fr_p (fr_p (fr_p (fr_p (fr_p (fr_p (fr_p fr_0 (Or.inr (by decide))) (Or.inl (by decide))) (Or.inl (by decide))) (Or.inl (by decide))) (Or.inl (by decide))) (Or.inl (by decide))) (Or.inl (by decide))) (Or.inl (by decide))
theorem cs_th16_n {M : gm_M} {N : Int → Int} {f t l r : Int} (hT : cs M 16 = N) (ho : 0 ≤ N 4 ∧ N 4 < 24) : cs (cs_th16 M f t l r) 16 = nthr N f t l r := by
  have e4 : M 23 3 = N 4 := congrFun hT 4
  have e9 : M 16 6 = N 9 := congrFun hT 9
  unfold cs_th16 nthr
  rw [e4, e9]
  refine (cs_pL (b := 16) (by omega) (by omega)).trans ?_
  refine congrArg (fun z => nup z _ _) ((cs_pL (b := 16) (by omega) (by omega)).trans ?_)
  refine congrArg (fun z => nup z _ _) ((cs_pL (b := 16) (by omega) (by omega)).trans ?_)
  refine congrArg (fun z => nup z _ _) ((cs_pL (b := 16) (by omega) (by omega)).trans ?_)
  refine congrArg (fun z => nup z _ _) ((cs_pL (b := 16) (by omega) (by omega)).trans ?_)
  refine congrArg (fun z => nup z _ _) ((cs_pL (b := 16) (by omega) (by omega)).trans ?_)
  refine congrArg (fun z => nup z _ _) ((cs_pL (b := 16) (by omega) (by omega)).trans ?_)
  refine congrArg (fun z => nup z _ _) ((cs_f4 (b := 16)).trans ?_)
  rw [hT]
theorem vw_112 (hd : 7 ≤ d) (hE : E0 n K R) (hF : VF f e) (hV : VW f e b (-1) M) (hc : c < 75) (hl : tx_o c = l) (hb : 0 ≤ b ∧ b ≤ e) (h1 : tx_is f e b l → ∀ M2, fr [((214 : Nat), some (3 : Int)), ((214 : Nat), some (4 : Int)), ((214 : Nat), some (5 : Int)), ((214 : Nat), some (6 : Int)), ((214 : Nat), some (7 : Int))] M M2 → VW f e (tx_n f e b) (-1) M2 → Q (.inl (some (gm_vi 1))) n K R M2) (h0 : ¬ tx_is f e b l → ∀ M2, fr [((214 : Nat), some (3 : Int)), ((214 : Nat), some (4 : Int)), ((214 : Nat), some (5 : Int)), ((214 : Nat), some (6 : Int)), ((214 : Nat), some (7 : Int))] M M2 → VW f e b b M2 → Q (.inl (some (gm_vi 0))) n K R M2) : gm_Wp X LX d bc bs 112 0 (gm_ent 112 [gm_vr 214, gm_vo c]) [] n K R M Q := by
  refine gm_sz (gm_p_load (pc := 0) (i := .aload_n 0) (sr := 2) (j := 0) (by decide +kernel) rfl rfl rfl) ?_
  refine gm_sz (gm_p_load (pc := 1) (i := .aload_n 1) (sr := 2) (j := 1) (by decide +kernel) rfl rfl rfl) ?_
  refine gm_c_virt (k := 214) (ci := 8) (mj := 95) (ix := 66) (pc := 2) (as := [gm_vo c]) (st := []) (d' := d - 1) (bc' := 0) (bs' := 0) (by decide +kernel) (by decide +kernel) (by decide +kernel) (by decide +kernel) (e0k hE (k := 214) (c := 8) (by decide +kernel)).1 (e0k hE (k := 214) (c := 8) (by decide +kernel)).2 (by decide) (by decide +kernel) (show 1 = gm_na 95 by decide +kernel) (fw_c1 fw_so) (show 2 ≤ gm_ml 95 by decide +kernel) (Nat.le_of_ble_eq_true rfl) (by omega) (Nat.zero_le _) (Nat.zero_le _) ?_
  refine vw_95 (by omega) hE hF hV hc hl hb (fun h2 M2 hf2 hv2 => ?_) (fun h2 M2 hf2 hv2 => ?_)
  · show gm_Wp X LX d _ _ 112 5 _ [gm_vi 1] n K _ _ Q
    refine fw_iftd (cc := .ne) (pc := 5) (off := 10) (by decide +kernel) (by decide) ⟨by decide, by decide⟩ (by decide) ?_
    refine gm_sz (gm_p_const (pc := 15) (i := .iconst 1) (v := gm_vi 1) (by decide +kernel) (by decide +kernel)) ?_
    refine gm_sz (gm_p_goto (pc := 16) (off := 4) (by decide +kernel) (by decide)) ?_
    exact gm_r_int (pc := 20) (by decide +kernel) (Or.inr ⟨(by decide +kernel), Or.inr rfl⟩) (h1 h2 _ (fr_t fr_0 hf2 (by decide)) hv2)
  · show gm_Wp X LX d _ _ 112 5 _ [gm_vi 0] n K _ _ Q
    refine fw_iffd (cc := .ne) (pc := 5) (off := 10) (by decide +kernel) (by decide) ⟨by decide, by decide⟩ (by decide) ?_
    refine gm_sz (gm_p_load (pc := 8) (i := .aload_n 0) (sr := 2) (j := 0) (by decide +kernel) rfl rfl rfl) ?_
    refine gm_c_virt (k := 214) (ci := 8) (mj := 93) (ix := 69) (pc := 9) (as := []) (st := []) (d' := d - 1) (bc' := 0) (bs' := 0) (by decide +kernel) (by decide +kernel) (by decide +kernel) (by decide +kernel) (e0k hE (k := 214) (c := 8) (by decide +kernel)).1 (e0k hE (k := 214) (c := 8) (by decide +kernel)).2 (by decide) (by decide +kernel) (show 0 = gm_na 93 by decide +kernel) fw_c0 (show 1 ≤ gm_ml 93 by decide +kernel) (Nat.le_of_ble_eq_true rfl) (by omega) (Nat.zero_le _) (Nat.zero_le _) ?_
    refine vw_93 hE hF hv2 hb (fun M9 hf9 hv9 => ?_)
    show gm_Wp X LX d _ _ 112 12 _ [gm_vi 0] n K _ _ Q
    refine fw_iftd (cc := .eq) (pc := 12) (off := 7) (by decide +kernel) (by decide) ⟨by decide, by decide⟩ (by decide) ?_
    refine gm_sz (gm_p_const (pc := 19) (i := .iconst 0) (v := gm_vi 0) (by decide +kernel) (by decide +kernel)) ?_
    exact gm_r_int (pc := 20) (by decide +kernel) (Or.inr ⟨(by decide +kernel), Or.inl rfl⟩) (h0 h2 _ (fr_t (fr_t fr_0 hf2 (by decide)) hf9 (by decide)) hv9)
theorem vy_111 (hd : 3 ≤ d) (hE : E0 n K R) (hC : CST M) (hF : VF f e) (hV : VW f e b (-1) M) (hb : 0 ≤ b ∧ b ≤ e) (hT : cs M 16 = N) (hN : NR N) (h1 : vn f e 0 (N 1 - 1) b → ∀ M2, fr [((214 : Nat), some (3 : Int)), ((214 : Nat), some (4 : Int)), ((214 : Nat), some (5 : Int)), ((214 : Nat), some (6 : Int)), ((214 : Nat), some (7 : Int))] M M2 → VW f e (tx_n f e b) (-1) M2 → Q (.inl (some (gm_vi (tx_v f e 4 b)))) n K R M2) (h0 : ¬ vn f e 0 (N 1 - 1) b → ∀ M2, fr [((214 : Nat), some (3 : Int)), ((214 : Nat), some (4 : Int)), ((214 : Nat), some (5 : Int)), ((214 : Nat), some (6 : Int)), ((214 : Nat), some (7 : Int))] M M2 → VW f e b b M2 → Q (.inl (some (gm_vi (-1)))) n K R M2) : gm_Wp X LX d bc bs 111 0 (gm_ent 111 [gm_vr 213]) [] n K R M Q := by
  obtain ⟨⟨⟨a0, b0⟩, ⟨a1, b1⟩, ⟨a10, b10⟩, ⟨a11, b11⟩, ⟨a12, b12⟩, a9, b9⟩, ⟨⟨a2, b2⟩, ⟨a5, b5⟩, ⟨a3, b3⟩, ⟨a4, b4⟩, ⟨a6, b6⟩, ⟨a14, b14⟩, ⟨a7, b7⟩, a13, b13⟩, rF, rP, rL⟩ := id hN
  refine gm_sz (gm_p_load (pc := 0) (i := .aload_n 0) (sr := 2) (j := 0) (by decide +kernel) rfl rfl rfl) ?_
  refine gm_sz (fw_gr (pc := 1) (ix := 15) (ci := 7) (j := 0) (r := 214) (by decide +kernel) (e0k hE (k := 213) (c := 7) (by decide +kernel)) (by decide +kernel) (by decide +kernel) (e0r hE (k := 213) (j := 0) (r := 214) (by decide +kernel))) ?_
  refine gm_sz (gm_p_const (pc := 4) (i := .iconst 0) (v := gm_vi 0) (by decide +kernel) (by decide +kernel)) ?_
  refine gm_sz (gm_p_load (pc := 5) (i := .aload_n 0) (sr := 2) (j := 0) (by decide +kernel) rfl rfl rfl) ?_
  refine gm_sz (fw_gr (pc := 6) (ix := 9) (ci := 7) (j := 2) (r := 16) (by decide +kernel) (e0k hE (k := 213) (c := 7) (by decide +kernel)) (by decide +kernel) (by decide +kernel) (e0r hE (k := 213) (j := 2) (r := 16) (by decide +kernel))) ?_
  refine gm_sz (fw_gi (pc := 9) (ix := 97) (ci := 1) (j := 1) (x := (N 1)) (by decide +kernel) (e0k hE (k := 16) (c := 1) (by decide +kernel)) (by decide +kernel) (by decide +kernel) (dr_1 hT)) ?_
  refine gm_sz (gm_p_const (pc := 12) (i := .iconst 1) (v := gm_vi 1) (by decide +kernel) (by decide +kernel)) ?_
  refine gm_sz (gm_p_bin (pc := 13) (i := .isub) (f := fun x y => x - y) (by decide +kernel) rfl) ?_
  refine gm_c_virt (k := 214) (ci := 8) (mj := 94) (ix := 88) (pc := 14) (as := [gm_vi 0, gm_vi ((N 1) - 1)]) (st := []) (d' := d - 1) (bc' := 0) (bs' := 0) (by decide +kernel) (by decide +kernel) (by decide +kernel) (by decide +kernel) (e0k hE (k := 214) (c := 8) (by decide +kernel)).1 (e0k hE (k := 214) (c := 8) (by decide +kernel)).2 (by decide) (by decide +kernel) (show 2 = gm_na 94 by decide +kernel) (fw_c2 fw_si fw_si) (show 3 ≤ gm_ml 94 by decide +kernel) (Nat.le_of_ble_eq_true rfl) (by omega) (Nat.zero_le _) (Nat.zero_le _) ?_
  refine vw_94 (by omega) hE hF hV ⟨by decide, by decide⟩ ⟨by omega, by omega⟩ hb (fun h14 M14 hf14 hv14 => ?_) (fun h14 M14 hf14 hv14 => ?_)
  · show gm_Wp X LX d _ _ 111 17 _ [gm_vi (tx_v f e 4 b)] n K _ _ Q
    have h14 : vn f e 0 ((N 1) - 1) b := h14
    have hr14 : 0 ≤ tx_v f e 4 b ∧ tx_v f e 4 b ≤ (N 1) - 1 := h14.2
    have hb14 := tx_nb (f := f) (e := e) (b := b) hb.2
    have hb14 : 0 ≤ tx_n f e b ∧ tx_n f e b ≤ e := ⟨by have := hb.1; omega, hb14.2.1⟩
    exact gm_r_int (pc := 17) (by decide +kernel) (Or.inl (by decide +kernel)) (h1 h14 _ (fr_t fr_0 hf14 (by decide)) hv14)
  · show gm_Wp X LX d _ _ 111 17 _ [gm_vi (-1)] n K _ _ Q
    have h14 : ¬ vn f e 0 ((N 1) - 1) b := h14
    exact gm_r_int (pc := 17) (by decide +kernel) (Or.inl (by decide +kernel)) (h0 h14 _ (fr_t fr_0 hf14 (by decide)) hv14)
theorem vy_117 (hd : 3 ≤ d) (hE : E0 n K R) (hC : CST M) (hF : VF f e) (hV : VW f e b (-1) M) (hb : 0 ≤ b ∧ b ≤ e) (hT : cs M 16 = N) (hN : NR N) (h1 : vn f e 0 (N 0 - 1) b → ∀ M2, fr [((214 : Nat), some (3 : Int)), ((214 : Nat), some (4 : Int)), ((214 : Nat), some (5 : Int)), ((214 : Nat), some (6 : Int)), ((214 : Nat), some (7 : Int))] M M2 → VW f e (tx_n f e b) (-1) M2 → Q (.inl (some (gm_vi (tx_v f e 4 b)))) n K R M2) (h0 : ¬ vn f e 0 (N 0 - 1) b → ∀ M2, fr [((214 : Nat), some (3 : Int)), ((214 : Nat), some (4 : Int)), ((214 : Nat), some (5 : Int)), ((214 : Nat), some (6 : Int)), ((214 : Nat), some (7 : Int))] M M2 → VW f e b b M2 → Q (.inl (some (gm_vi (-1)))) n K R M2) : gm_Wp X LX d bc bs 117 0 (gm_ent 117 [gm_vr 213]) [] n K R M Q := by
  obtain ⟨⟨⟨a0, b0⟩, ⟨a1, b1⟩, ⟨a10, b10⟩, ⟨a11, b11⟩, ⟨a12, b12⟩, a9, b9⟩, ⟨⟨a2, b2⟩, ⟨a5, b5⟩, ⟨a3, b3⟩, ⟨a4, b4⟩, ⟨a6, b6⟩, ⟨a14, b14⟩, ⟨a7, b7⟩, a13, b13⟩, rF, rP, rL⟩ := id hN
  refine gm_sz (gm_p_load (pc := 0) (i := .aload_n 0) (sr := 2) (j := 0) (by decide +kernel) rfl rfl rfl) ?_
  refine gm_sz (fw_gr (pc := 1) (ix := 15) (ci := 7) (j := 0) (r := 214) (by decide +kernel) (e0k hE (k := 213) (c := 7) (by decide +kernel)) (by decide +kernel) (by decide +kernel) (e0r hE (k := 213) (j := 0) (r := 214) (by decide +kernel))) ?_
  refine gm_sz (gm_p_const (pc := 4) (i := .iconst 0) (v := gm_vi 0) (by decide +kernel) (by decide +kernel)) ?_
  refine gm_sz (gm_p_load (pc := 5) (i := .aload_n 0) (sr := 2) (j := 0) (by decide +kernel) rfl rfl rfl) ?_
  refine gm_sz (fw_gr (pc := 6) (ix := 9) (ci := 7) (j := 2) (r := 16) (by decide +kernel) (e0k hE (k := 213) (c := 7) (by decide +kernel)) (by decide +kernel) (by decide +kernel) (e0r hE (k := 213) (j := 2) (r := 16) (by decide +kernel))) ?_
  refine gm_sz (fw_gi (pc := 9) (ix := 92) (ci := 1) (j := 0) (x := (N 0)) (by decide +kernel) (e0k hE (k := 16) (c := 1) (by decide +kernel)) (by decide +kernel) (by decide +kernel) (dr_0 hT)) ?_
  refine gm_sz (gm_p_const (pc := 12) (i := .iconst 1) (v := gm_vi 1) (by decide +kernel) (by decide +kernel)) ?_
  refine gm_sz (gm_p_bin (pc := 13) (i := .isub) (f := fun x y => x - y) (by decide +kernel) rfl) ?_
  refine gm_c_virt (k := 214) (ci := 8) (mj := 94) (ix := 88) (pc := 14) (as := [gm_vi 0, gm_vi ((N 0) - 1)]) (st := []) (d' := d - 1) (bc' := 0) (bs' := 0) (by decide +kernel) (by decide +kernel) (by decide +kernel) (by decide +kernel) (e0k hE (k := 214) (c := 8) (by decide +kernel)).1 (e0k hE (k := 214) (c := 8) (by decide +kernel)).2 (by decide) (by decide +kernel) (show 2 = gm_na 94 by decide +kernel) (fw_c2 fw_si fw_si) (show 3 ≤ gm_ml 94 by decide +kernel) (Nat.le_of_ble_eq_true rfl) (by omega) (Nat.zero_le _) (Nat.zero_le _) ?_
  refine vw_94 (by omega) hE hF hV ⟨by decide, by decide⟩ ⟨by omega, by omega⟩ hb (fun h14 M14 hf14 hv14 => ?_) (fun h14 M14 hf14 hv14 => ?_)
  · show gm_Wp X LX d _ _ 117 17 _ [gm_vi (tx_v f e 4 b)] n K _ _ Q
    have h14 : vn f e 0 ((N 0) - 1) b := h14
    have hr14 : 0 ≤ tx_v f e 4 b ∧ tx_v f e 4 b ≤ (N 0) - 1 := h14.2
    have hb14 := tx_nb (f := f) (e := e) (b := b) hb.2
    have hb14 : 0 ≤ tx_n f e b ∧ tx_n f e b ≤ e := ⟨by have := hb.1; omega, hb14.2.1⟩
    exact gm_r_int (pc := 17) (by decide +kernel) (Or.inl (by decide +kernel)) (h1 h14 _ (fr_t fr_0 hf14 (by decide)) hv14)
  · show gm_Wp X LX d _ _ 117 17 _ [gm_vi (-1)] n K _ _ Q
    have h14 : ¬ vn f e 0 ((N 0) - 1) b := h14
    exact gm_r_int (pc := 17) (by decide +kernel) (Or.inl (by decide +kernel)) (h0 h14 _ (fr_t fr_0 hf14 (by decide)) hv14)
theorem vy_104 (hd : 7 ≤ d) (hE : E0 n K R) (hC : CST M) (hF : VF f e) (hV : VW f e b (-1) M) (hb : 0 ≤ b ∧ b ≤ e) (hT : cs M 16 = N) (hN : NR N) (q1 : ∀ M2, fr [((214 : Nat), some (3 : Int)), ((214 : Nat), some (4 : Int)), ((214 : Nat), some (5 : Int)), ((214 : Nat), some (6 : Int)), ((214 : Nat), some (7 : Int)), ((16 : Nat), none), ((17 : Nat), some (3 : Int)), ((18 : Nat), none), ((19 : Nat), some (3 : Int)), ((20 : Nat), none), ((21 : Nat), some (3 : Int)), ((22 : Nat), none), ((23 : Nat), some (3 : Int)), ((24 : Nat), none), ((25 : Nat), some (3 : Int)), ((26 : Nat), none)] M M2 → CST M2 → VW f e (v_lanes f e N b).2.1 (-1) M2 → cs M2 16 = (v_lanes f e N b).2.2 → (v_lanes f e N b).1 = true → Q (.inl (some (gm_vi 1))) n K R M2) (q0 : ∀ M2, fr [((214 : Nat), some (3 : Int)), ((214 : Nat), some (4 : Int)), ((214 : Nat), some (5 : Int)), ((214 : Nat), some (6 : Int)), ((214 : Nat), some (7 : Int)), ((16 : Nat), none), ((17 : Nat), some (3 : Int)), ((18 : Nat), none), ((19 : Nat), some (3 : Int)), ((20 : Nat), none), ((21 : Nat), some (3 : Int)), ((22 : Nat), none), ((23 : Nat), some (3 : Int)), ((24 : Nat), none), ((25 : Nat), some (3 : Int)), ((26 : Nat), none)] M M2 → CST M2 → VW f e (v_lanes f e N b).2.1 (v_lanes f e N b).2.1 M2 → ¬ (v_lanes f e N b).1 = true → Q (.inl (some (gm_vi 0))) n K R M2) : gm_Wp X LX d bc bs 104 0 (gm_ent 104 [gm_vr 213]) [] n K R M Q := by
  obtain ⟨⟨⟨a0, b0⟩, ⟨a1, b1⟩, ⟨a10, b10⟩, ⟨a11, b11⟩, ⟨a12, b12⟩, a9, b9⟩, ⟨⟨a2, b2⟩, ⟨a5, b5⟩, ⟨a3, b3⟩, ⟨a4, b4⟩, ⟨a6, b6⟩, ⟨a14, b14⟩, ⟨a7, b7⟩, a13, b13⟩, rF, rP, rL⟩ := id hN
  refine gm_sz (gm_p_load (pc := 0) (i := .aload_n 0) (sr := 2) (j := 0) (by decide +kernel) rfl rfl rfl) ?_
  refine gm_sz (fw_gr (pc := 1) (ix := 9) (ci := 7) (j := 2) (r := 16) (by decide +kernel) (e0k hE (k := 213) (c := 7) (by decide +kernel)) (by decide +kernel) (by decide +kernel) (e0r hE (k := 213) (j := 2) (r := 16) (by decide +kernel))) ?_
  refine gm_c_virt (k := 16) (ci := 1) (mj := 105) (ix := 79) (pc := 4) (as := []) (st := []) (d' := d - 1) (bc' := 0) (bs' := 0) (by decide +kernel) (by decide +kernel) (by decide +kernel) (by decide +kernel) (e0k hE (k := 16) (c := 1) (by decide +kernel)).1 (e0k hE (k := 16) (c := 1) (by decide +kernel)).2 (by decide) (by decide +kernel) (show 0 = gm_na 105 by decide +kernel) fw_c0 (show 1 ≤ gm_ml 105 by decide +kernel) (Nat.le_of_ble_eq_true rfl) (by omega) (Nat.zero_le _) (Nat.zero_le _) ?_
  refine cs_emp (by omega) hE hC (by rw [(dr_2 hT)]; exact ⟨by omega, by omega⟩) (by rw [(dr_5 hT)]; exact ⟨by omega, by omega⟩) (by rw [(dr_3 hT)]; exact ⟨by omega, by omega⟩) (by rw [(dr_4 hT)]; exact ⟨by omega, by omega⟩) (by rw [(dr_6 hT)]; exact ⟨by omega, by omega⟩) (fun h4 => ?_) (fun h4 => ?_)
  · show gm_Wp X LX d _ _ 104 7 _ [gm_vi 0] n K _ _ Q
    have h4 : ¬ (((((M 17 3) + (M 19 3)) + (M 21 3)) + (M 23 3)) + (M 25 3)) = 0 := h4
    rw [(dr_2 hT), (dr_5 hT), (dr_3 hT), (dr_4 hT), (dr_6 hT)] at h4
    have h4 : ¬ v_emp N := h4
    refine fw_iffd (cc := .ne) (pc := 7) (off := 11) (by decide +kernel) (by decide) ⟨by decide, by decide⟩ (by decide) ?_
    refine gm_sz (gm_p_load (pc := 10) (i := .aload_n 0) (sr := 2) (j := 0) (by decide +kernel) rfl rfl rfl) ?_
    refine gm_sz (fw_gr (pc := 11) (ix := 15) (ci := 7) (j := 0) (r := 214) (by decide +kernel) (e0k hE (k := 213) (c := 7) (by decide +kernel)) (by decide +kernel) (by decide +kernel) (e0r hE (k := 213) (j := 0) (r := 214) (by decide +kernel))) ?_
    refine gm_c_virt (k := 214) (ci := 8) (mj := 93) (ix := 76) (pc := 14) (as := []) (st := []) (d' := d - 1) (bc' := 0) (bs' := 0) (by decide +kernel) (by decide +kernel) (by decide +kernel) (by decide +kernel) (e0k hE (k := 214) (c := 8) (by decide +kernel)).1 (e0k hE (k := 214) (c := 8) (by decide +kernel)).2 (by decide) (by decide +kernel) (show 0 = gm_na 93 by decide +kernel) fw_c0 (show 1 ≤ gm_ml 93 by decide +kernel) (Nat.le_of_ble_eq_true rfl) (by omega) (Nat.zero_le _) (Nat.zero_le _) ?_
    refine vw_93 hE hF hV hb (fun M14 hf14 hv14 => ?_)
    show gm_Wp X LX d _ _ 104 17 _ [gm_vi 0] n K _ _ Q
    have ev : v_lanes f e N b = (false, b, N) := by
      unfold v_lanes
      rw [tif_f h4]
      first | done | rfl
    rw [ev] at q0
    exact gm_r_int (pc := 17) (by decide +kernel) (Or.inr ⟨(by decide +kernel), Or.inl rfl⟩) (q0 _ (fr_t fr_0 hf14 (by decide)) (cst_fr (W := [((214 : Nat), some (3 : Int)), ((214 : Nat), some (4 : Int)), ((214 : Nat), some (5 : Int)), ((214 : Nat), some (6 : Int)), ((214 : Nat), some (7 : Int))]) hC (fr_t fr_0 hf14 (by decide)) (by decide +kernel)) hv14 (fun h => by cases h))
  · show gm_Wp X LX d _ _ 104 7 _ [gm_vi 1] n K _ _ Q
    have h4 : (((((M 17 3) + (M 19 3)) + (M 21 3)) + (M 23 3)) + (M 25 3)) = 0 := h4
    rw [(dr_2 hT), (dr_5 hT), (dr_3 hT), (dr_4 hT), (dr_6 hT)] at h4
    have h4 : v_emp N := h4
    refine fw_iftd (cc := .ne) (pc := 7) (off := 11) (by decide +kernel) (by decide) ⟨by decide, by decide⟩ (by decide) ?_
    refine gm_sz (gm_p_load (pc := 18) (i := .aload_n 0) (sr := 2) (j := 0) (by decide +kernel) rfl rfl rfl) ?_
    refine gm_sz (fw_gr (pc := 19) (ix := 15) (ci := 7) (j := 0) (r := 214) (by decide +kernel) (e0k hE (k := 213) (c := 7) (by decide +kernel)) (by decide +kernel) (by decide +kernel) (e0r hE (k := 213) (j := 0) (r := 214) (by decide +kernel))) ?_
    refine gm_c_virt (k := 214) (ci := 8) (mj := 76) (ix := 84) (pc := 22) (as := []) (st := []) (d' := d - 1) (bc' := 0) (bs' := 0) (by decide +kernel) (by decide +kernel) (by decide +kernel) (by decide +kernel) (e0k hE (k := 214) (c := 8) (by decide +kernel)).1 (e0k hE (k := 214) (c := 8) (by decide +kernel)).2 (by decide) (by decide +kernel) (show 0 = gm_na 76 by decide +kernel) fw_c0 (show 1 ≤ gm_ml 76 by decide +kernel) (Nat.le_of_ble_eq_true rfl) (by omega) (Nat.zero_le _) (Nat.zero_le _) ?_
    refine vw_76 (by omega) hE hF hV hb (fun M22 hf22 hv22 => ?_)
    show gm_Wp X LX d _ _ 104 25 _ [] n K _ _ Q
    have hb22 := tx_nb (f := f) (e := e) (b := b) hb.2
    have hb22 : 0 ≤ tx_n f e b ∧ tx_n f e b ≤ e := ⟨by have := hb.1; omega, hb22.2.1⟩
    refine gm_sz (gm_p_load (pc := 25) (i := .aload_n 0) (sr := 2) (j := 0) (by decide +kernel) rfl rfl rfl) ?_
    refine gm_sz (fw_gr (pc := 26) (ix := 15) (ci := 7) (j := 0) (r := 214) (by decide +kernel) (e0k hE (k := 213) (c := 7) (by decide +kernel)) (by decide +kernel) (by decide +kernel) (e0r hE (k := 213) (j := 0) (r := 214) (by decide +kernel))) ?_
    refine gm_sz (gm_p_const (pc := 29) (i := .iconst 1) (v := gm_vi 1) (by decide +kernel) (by decide +kernel)) ?_
    refine gm_sz (gm_p_const (pc := 30) (i := .bipush 6) (v := gm_vi 6) (by decide +kernel) (by decide +kernel)) ?_
    refine gm_c_virt (k := 214) (ci := 8) (mj := 94) (ix := 88) (pc := 32) (as := [gm_vi 1, gm_vi 6]) (st := []) (d' := d - 1) (bc' := 0) (bs' := 0) (by decide +kernel) (by decide +kernel) (by decide +kernel) (by decide +kernel) (e0k hE (k := 214) (c := 8) (by decide +kernel)).1 (e0k hE (k := 214) (c := 8) (by decide +kernel)).2 (by decide) (by decide +kernel) (show 2 = gm_na 94 by decide +kernel) (fw_c2 fw_si fw_si) (show 3 ≤ gm_ml 94 by decide +kernel) (Nat.le_of_ble_eq_true rfl) (by omega) (Nat.zero_le _) (Nat.zero_le _) ?_
    refine vw_94 (by omega) hE hF hv22 ⟨by decide, by decide⟩ ⟨by decide, by decide⟩ hb22 (fun h32 M32 hf32 hv32 => ?_) (fun h32 M32 hf32 hv32 => ?_)
    · show gm_Wp X LX d _ _ 104 35 _ [gm_vi (tx_v f e 4 (tx_n f e b))] n K _ _ Q
      have h32 : vn f e 1 6 (tx_n f e b) := h32
      have hr32 : 1 ≤ tx_v f e 4 (tx_n f e b) ∧ tx_v f e 4 (tx_n f e b) ≤ 6 := h32.2
      have hb32 := tx_nb (f := f) (e := e) (b := (tx_n f e b)) hb22.2
      have hb32 : 0 ≤ tx_n f e (tx_n f e b) ∧ tx_n f e (tx_n f e b) ≤ e := ⟨by have := hb22.1; omega, hb32.2.1⟩
      refine gm_sz (gm_p_stor (pc := 35) (i := .istore_n 1) (sr := 0) (j := 1) (by decide +kernel) rfl (show 2 ≤ _ from Nat.le_of_ble_eq_true rfl) rfl) ?_
      refine gm_sz (gm_p_load (pc := 36) (i := .iload_n 1) (sr := 0) (j := 1) (by decide +kernel) rfl rfl rfl) ?_
      refine gm_sz (gm_p_const (pc := 37) (i := .iconst (-1)) (v := gm_vi (-1)) (by decide +kernel) (by decide +kernel)) ?_
      refine fw_ict (cc := .ne) (pc := 38) (off := 5) (by decide +kernel) (by decide) ⟨by omega, by omega⟩ ⟨by decide, by decide⟩ (show ¬ (tx_v f e 4 (tx_n f e b)) = (-1) by omega) ?_
      refine gm_sz (gm_p_load (pc := 43) (i := .aload_n 0) (sr := 2) (j := 0) (by decide +kernel) rfl rfl rfl) ?_
      refine gm_sz (fw_gr (pc := 44) (ix := 9) (ci := 7) (j := 2) (r := 16) (by decide +kernel) (e0k hE (k := 213) (c := 7) (by decide +kernel)) (by decide +kernel) (by decide +kernel) (e0r hE (k := 213) (j := 2) (r := 16) (by decide +kernel))) ?_
      refine gm_sz (gm_p_load (pc := 47) (i := .iload_n 1) (sr := 0) (j := 1) (by decide +kernel) rfl rfl rfl) ?_
      refine gm_sz (fw_pi (pc := 48) (ix := 92) (ci := 1) (j := 0) (M' := gm_uM M32 16 0 (tx_v f e 4 (tx_n f e b))) (by decide +kernel) (e0k hE (k := 16) (c := 1) (by decide +kernel)) (by decide +kernel) (by decide +kernel) (by decide +kernel) rfl) ?_
      refine gm_sz (gm_p_load (pc := 51) (i := .aload_n 0) (sr := 2) (j := 0) (by decide +kernel) rfl rfl rfl) ?_
      refine gm_sz (fw_gr (pc := 52) (ix := 9) (ci := 7) (j := 2) (r := 16) (by decide +kernel) (e0k hE (k := 213) (c := 7) (by decide +kernel)) (by decide +kernel) (by decide +kernel) (e0r hE (k := 213) (j := 2) (r := 16) (by decide +kernel))) ?_
      refine gm_sz (gm_p_load (pc := 55) (i := .iload_n 1) (sr := 0) (j := 1) (by decide +kernel) rfl rfl rfl) ?_
      refine gm_sz (fw_pi (pc := 56) (ix := 95) (ci := 1) (j := 4) (M' := gm_uM (gm_uM M32 16 0 (tx_v f e 4 (tx_n f e b))) 16 4 (tx_v f e 4 (tx_n f e b))) (by decide +kernel) (e0k hE (k := 16) (c := 1) (by decide +kernel)) (by decide +kernel) (by decide +kernel) (by decide +kernel) rfl) ?_
      refine gm_sz (gm_p_const (pc := 59) (i := .iconst 1) (v := gm_vi 1) (by decide +kernel) (by decide +kernel)) ?_
      have ev : v_lanes f e N b = (true, (tx_n f e (tx_n f e b)), (nup (nup N 0 (tx_v f e 4 (tx_n f e b))) 12 (tx_v f e 4 (tx_n f e b)))) := by
        unfold v_lanes
        rw [tif_t h4, tif_t h32]
        first | done | rfl
      rw [ev] at q1
      exact gm_r_int (pc := 60) (by decide +kernel) (Or.inr ⟨(by decide +kernel), Or.inr rfl⟩) (q1 _ (fr_p (fr_p (fr_t (fr_t fr_0 hf22 (by decide)) hf32 (by decide)) (Or.inl (by decide))) (Or.inl (by decide))) (cst_fr (W := [((214 : Nat), some (3 : Int)), ((214 : Nat), some (4 : Int)), ((214 : Nat), some (5 : Int)), ((214 : Nat), some (6 : Int)), ((214 : Nat), some (7 : Int)), ((16 : Nat), some (0 : Int)), ((16 : Nat), some (4 : Int))]) hC (fr_p (fr_p (fr_t (fr_t fr_0 hf22 (by decide)) hf32 (by decide)) (Or.inr (by decide))) (Or.inr (by decide))) (by decide +kernel)) (vw_fr (W := [((16 : Nat), some (0 : Int)), ((16 : Nat), some (4 : Int))]) hv32 (fr_p (fr_p fr_0 (Or.inr (by decide))) (Or.inr (by decide))) (by decide)) ((cs_f12 (b := 16)).trans (congrArg (fun V9 => nup V9 12 (tx_v f e 4 (tx_n f e b))) ((cs_f0 (b := 16)).trans (congrArg (fun V9 => nup V9 0 (tx_v f e 4 (tx_n f e b))) ((cs_frd hf32 (by decide)).trans ((cs_frd hf22 (by decide)).trans (hT))))))) rfl)
    · show gm_Wp X LX d _ _ 104 35 _ [gm_vi (-1)] n K _ _ Q
      have h32 : ¬ vn f e 1 6 (tx_n f e b) := h32
      refine gm_sz (gm_p_stor (pc := 35) (i := .istore_n 1) (sr := 0) (j := 1) (by decide +kernel) rfl (show 2 ≤ _ from Nat.le_of_ble_eq_true rfl) rfl) ?_
      refine gm_sz (gm_p_load (pc := 36) (i := .iload_n 1) (sr := 0) (j := 1) (by decide +kernel) rfl rfl rfl) ?_
      refine gm_sz (gm_p_const (pc := 37) (i := .iconst (-1)) (v := gm_vi (-1)) (by decide +kernel) (by decide +kernel)) ?_
      refine fw_icfd (cc := .ne) (pc := 38) (off := 5) (by decide +kernel) (by decide) ⟨by decide, by decide⟩ ⟨by decide, by decide⟩ (by decide) ?_
      refine gm_sz (gm_p_const (pc := 41) (i := .iconst 0) (v := gm_vi 0) (by decide +kernel) (by decide +kernel)) ?_
      have ev : v_lanes f e N b = (false, (tx_n f e b), N) := by
        unfold v_lanes
        rw [tif_t h4, tif_f h32]
        first | done | rfl
      rw [ev] at q0
      exact gm_r_int (pc := 42) (by decide +kernel) (Or.inr ⟨(by decide +kernel), Or.inl rfl⟩) (q0 _ (fr_t (fr_t fr_0 hf22 (by decide)) hf32 (by decide)) (cst_fr (W := [((214 : Nat), some (3 : Int)), ((214 : Nat), some (4 : Int)), ((214 : Nat), some (5 : Int)), ((214 : Nat), some (6 : Int)), ((214 : Nat), some (7 : Int))]) hC (fr_t (fr_t fr_0 hf22 (by decide)) hf32 (by decide)) (by decide +kernel)) hv32 (fun h => by cases h))
theorem vy_106 (hd : 7 ≤ d) (hE : E0 n K R) (hC : CST M) (hF : VF f e) (hV : VW f e b (-1) M) (hb : 0 ≤ b ∧ b ≤ e) (hT : cs M 16 = N) (hN : NR N) (q1 : ∀ M2, fr [((214 : Nat), some (3 : Int)), ((214 : Nat), some (4 : Int)), ((214 : Nat), some (5 : Int)), ((214 : Nat), some (6 : Int)), ((214 : Nat), some (7 : Int)), ((16 : Nat), none), ((17 : Nat), some (3 : Int)), ((18 : Nat), none), ((19 : Nat), some (3 : Int)), ((20 : Nat), none), ((21 : Nat), some (3 : Int)), ((22 : Nat), none), ((23 : Nat), some (3 : Int)), ((24 : Nat), none), ((25 : Nat), some (3 : Int)), ((26 : Nat), none)] M M2 → CST M2 → VW f e (v_last f e N b).2.1 (-1) M2 → cs M2 16 = (v_last f e N b).2.2 → (v_last f e N b).1 = true → Q (.inl (some (gm_vi 1))) n K R M2) (q0 : ∀ M2, fr [((214 : Nat), some (3 : Int)), ((214 : Nat), some (4 : Int)), ((214 : Nat), some (5 : Int)), ((214 : Nat), some (6 : Int)), ((214 : Nat), some (7 : Int)), ((16 : Nat), none), ((17 : Nat), some (3 : Int)), ((18 : Nat), none), ((19 : Nat), some (3 : Int)), ((20 : Nat), none), ((21 : Nat), some (3 : Int)), ((22 : Nat), none), ((23 : Nat), some (3 : Int)), ((24 : Nat), none), ((25 : Nat), some (3 : Int)), ((26 : Nat), none)] M M2 → CST M2 → VW f e (v_last f e N b).2.1 (v_last f e N b).2.1 M2 → ¬ (v_last f e N b).1 = true → Q (.inl (some (gm_vi 0))) n K R M2) : gm_Wp X LX d bc bs 106 0 (gm_ent 106 [gm_vr 213]) [] n K R M Q := by
  obtain ⟨⟨⟨a0, b0⟩, ⟨a1, b1⟩, ⟨a10, b10⟩, ⟨a11, b11⟩, ⟨a12, b12⟩, a9, b9⟩, ⟨⟨a2, b2⟩, ⟨a5, b5⟩, ⟨a3, b3⟩, ⟨a4, b4⟩, ⟨a6, b6⟩, ⟨a14, b14⟩, ⟨a7, b7⟩, a13, b13⟩, rF, rP, rL⟩ := id hN
  refine gm_sz (gm_p_load (pc := 0) (i := .aload_n 0) (sr := 2) (j := 0) (by decide +kernel) rfl rfl rfl) ?_
  refine gm_sz (fw_gr (pc := 1) (ix := 9) (ci := 7) (j := 2) (r := 16) (by decide +kernel) (e0k hE (k := 213) (c := 7) (by decide +kernel)) (by decide +kernel) (by decide +kernel) (e0r hE (k := 213) (j := 2) (r := 16) (by decide +kernel))) ?_
  refine gm_c_virt (k := 16) (ci := 1) (mj := 105) (ix := 79) (pc := 4) (as := []) (st := []) (d' := d - 1) (bc' := 0) (bs' := 0) (by decide +kernel) (by decide +kernel) (by decide +kernel) (by decide +kernel) (e0k hE (k := 16) (c := 1) (by decide +kernel)).1 (e0k hE (k := 16) (c := 1) (by decide +kernel)).2 (by decide) (by decide +kernel) (show 0 = gm_na 105 by decide +kernel) fw_c0 (show 1 ≤ gm_ml 105 by decide +kernel) (Nat.le_of_ble_eq_true rfl) (by omega) (Nat.zero_le _) (Nat.zero_le _) ?_
  refine cs_emp (by omega) hE hC (by rw [(dr_2 hT)]; exact ⟨by omega, by omega⟩) (by rw [(dr_5 hT)]; exact ⟨by omega, by omega⟩) (by rw [(dr_3 hT)]; exact ⟨by omega, by omega⟩) (by rw [(dr_4 hT)]; exact ⟨by omega, by omega⟩) (by rw [(dr_6 hT)]; exact ⟨by omega, by omega⟩) (fun h4 => ?_) (fun h4 => ?_)
  · show gm_Wp X LX d _ _ 106 7 _ [gm_vi 0] n K _ _ Q
    have h4 : ¬ (((((M 17 3) + (M 19 3)) + (M 21 3)) + (M 23 3)) + (M 25 3)) = 0 := h4
    rw [(dr_2 hT), (dr_5 hT), (dr_3 hT), (dr_4 hT), (dr_6 hT)] at h4
    have h4 : ¬ v_emp N := h4
    refine fw_iffd (cc := .ne) (pc := 7) (off := 11) (by decide +kernel) (by decide) ⟨by decide, by decide⟩ (by decide) ?_
    refine gm_sz (gm_p_load (pc := 10) (i := .aload_n 0) (sr := 2) (j := 0) (by decide +kernel) rfl rfl rfl) ?_
    refine gm_sz (fw_gr (pc := 11) (ix := 15) (ci := 7) (j := 0) (r := 214) (by decide +kernel) (e0k hE (k := 213) (c := 7) (by decide +kernel)) (by decide +kernel) (by decide +kernel) (e0r hE (k := 213) (j := 0) (r := 214) (by decide +kernel))) ?_
    refine gm_c_virt (k := 214) (ci := 8) (mj := 93) (ix := 76) (pc := 14) (as := []) (st := []) (d' := d - 1) (bc' := 0) (bs' := 0) (by decide +kernel) (by decide +kernel) (by decide +kernel) (by decide +kernel) (e0k hE (k := 214) (c := 8) (by decide +kernel)).1 (e0k hE (k := 214) (c := 8) (by decide +kernel)).2 (by decide) (by decide +kernel) (show 0 = gm_na 93 by decide +kernel) fw_c0 (show 1 ≤ gm_ml 93 by decide +kernel) (Nat.le_of_ble_eq_true rfl) (by omega) (Nat.zero_le _) (Nat.zero_le _) ?_
    refine vw_93 hE hF hV hb (fun M14 hf14 hv14 => ?_)
    show gm_Wp X LX d _ _ 106 17 _ [gm_vi 0] n K _ _ Q
    have ev : v_last f e N b = (false, b, N) := by
      unfold v_last
      rw [tif_f h4]
      first | done | rfl
    rw [ev] at q0
    exact gm_r_int (pc := 17) (by decide +kernel) (Or.inr ⟨(by decide +kernel), Or.inl rfl⟩) (q0 _ (fr_t fr_0 hf14 (by decide)) (cst_fr (W := [((214 : Nat), some (3 : Int)), ((214 : Nat), some (4 : Int)), ((214 : Nat), some (5 : Int)), ((214 : Nat), some (6 : Int)), ((214 : Nat), some (7 : Int))]) hC (fr_t fr_0 hf14 (by decide)) (by decide +kernel)) hv14 (fun h => by cases h))
  · show gm_Wp X LX d _ _ 106 7 _ [gm_vi 1] n K _ _ Q
    have h4 : (((((M 17 3) + (M 19 3)) + (M 21 3)) + (M 23 3)) + (M 25 3)) = 0 := h4
    rw [(dr_2 hT), (dr_5 hT), (dr_3 hT), (dr_4 hT), (dr_6 hT)] at h4
    have h4 : v_emp N := h4
    refine fw_iftd (cc := .ne) (pc := 7) (off := 11) (by decide +kernel) (by decide) ⟨by decide, by decide⟩ (by decide) ?_
    refine gm_sz (gm_p_load (pc := 18) (i := .aload_n 0) (sr := 2) (j := 0) (by decide +kernel) rfl rfl rfl) ?_
    refine gm_sz (fw_gr (pc := 19) (ix := 15) (ci := 7) (j := 0) (r := 214) (by decide +kernel) (e0k hE (k := 213) (c := 7) (by decide +kernel)) (by decide +kernel) (by decide +kernel) (e0r hE (k := 213) (j := 0) (r := 214) (by decide +kernel))) ?_
    refine gm_c_virt (k := 214) (ci := 8) (mj := 76) (ix := 84) (pc := 22) (as := []) (st := []) (d' := d - 1) (bc' := 0) (bs' := 0) (by decide +kernel) (by decide +kernel) (by decide +kernel) (by decide +kernel) (e0k hE (k := 214) (c := 8) (by decide +kernel)).1 (e0k hE (k := 214) (c := 8) (by decide +kernel)).2 (by decide) (by decide +kernel) (show 0 = gm_na 76 by decide +kernel) fw_c0 (show 1 ≤ gm_ml 76 by decide +kernel) (Nat.le_of_ble_eq_true rfl) (by omega) (Nat.zero_le _) (Nat.zero_le _) ?_
    refine vw_76 (by omega) hE hF hV hb (fun M22 hf22 hv22 => ?_)
    show gm_Wp X LX d _ _ 106 25 _ [] n K _ _ Q
    have hb22 := tx_nb (f := f) (e := e) (b := b) hb.2
    have hb22 : 0 ≤ tx_n f e b ∧ tx_n f e b ≤ e := ⟨by have := hb.1; omega, hb22.2.1⟩
    refine gm_sz (gm_p_load (pc := 25) (i := .aload_n 0) (sr := 2) (j := 0) (by decide +kernel) rfl rfl rfl) ?_
    refine gm_sz (fw_gr (pc := 26) (ix := 15) (ci := 7) (j := 0) (r := 214) (by decide +kernel) (e0k hE (k := 213) (c := 7) (by decide +kernel)) (by decide +kernel) (by decide +kernel) (e0r hE (k := 213) (j := 0) (r := 214) (by decide +kernel))) ?_
    refine gm_sz (gm_p_const (pc := 29) (i := .bipush 10) (v := gm_vi 10) (by decide +kernel) (by decide +kernel)) ?_
    refine gm_sz (gm_p_const (pc := 31) (i := .bipush 99) (v := gm_vi 99) (by decide +kernel) (by decide +kernel)) ?_
    refine gm_c_virt (k := 214) (ci := 8) (mj := 94) (ix := 88) (pc := 33) (as := [gm_vi 10, gm_vi 99]) (st := []) (d' := d - 1) (bc' := 0) (bs' := 0) (by decide +kernel) (by decide +kernel) (by decide +kernel) (by decide +kernel) (e0k hE (k := 214) (c := 8) (by decide +kernel)).1 (e0k hE (k := 214) (c := 8) (by decide +kernel)).2 (by decide) (by decide +kernel) (show 2 = gm_na 94 by decide +kernel) (fw_c2 fw_si fw_si) (show 3 ≤ gm_ml 94 by decide +kernel) (Nat.le_of_ble_eq_true rfl) (by omega) (Nat.zero_le _) (Nat.zero_le _) ?_
    refine vw_94 (by omega) hE hF hv22 ⟨by decide, by decide⟩ ⟨by decide, by decide⟩ hb22 (fun h33 M33 hf33 hv33 => ?_) (fun h33 M33 hf33 hv33 => ?_)
    · show gm_Wp X LX d _ _ 106 36 _ [gm_vi (tx_v f e 4 (tx_n f e b))] n K _ _ Q
      have h33 : vn f e 10 99 (tx_n f e b) := h33
      have hr33 : 10 ≤ tx_v f e 4 (tx_n f e b) ∧ tx_v f e 4 (tx_n f e b) ≤ 99 := h33.2
      have hb33 := tx_nb (f := f) (e := e) (b := (tx_n f e b)) hb22.2
      have hb33 : 0 ≤ tx_n f e (tx_n f e b) ∧ tx_n f e (tx_n f e b) ≤ e := ⟨by have := hb22.1; omega, hb33.2.1⟩
      refine gm_sz (gm_p_stor (pc := 36) (i := .istore_n 1) (sr := 0) (j := 1) (by decide +kernel) rfl (show 2 ≤ _ from Nat.le_of_ble_eq_true rfl) rfl) ?_
      refine gm_sz (gm_p_load (pc := 37) (i := .iload_n 1) (sr := 0) (j := 1) (by decide +kernel) rfl rfl rfl) ?_
      refine gm_sz (gm_p_const (pc := 38) (i := .iconst (-1)) (v := gm_vi (-1)) (by decide +kernel) (by decide +kernel)) ?_
      refine fw_ict (cc := .ne) (pc := 39) (off := 5) (by decide +kernel) (by decide) ⟨by omega, by omega⟩ ⟨by decide, by decide⟩ (show ¬ (tx_v f e 4 (tx_n f e b)) = (-1) by omega) ?_
      refine gm_sz (gm_p_load (pc := 44) (i := .aload_n 0) (sr := 2) (j := 0) (by decide +kernel) rfl rfl rfl) ?_
      refine gm_sz (fw_gr (pc := 45) (ix := 9) (ci := 7) (j := 2) (r := 16) (by decide +kernel) (e0k hE (k := 213) (c := 7) (by decide +kernel)) (by decide +kernel) (by decide +kernel) (e0r hE (k := 213) (j := 2) (r := 16) (by decide +kernel))) ?_
      refine gm_sz (gm_p_load (pc := 48) (i := .iload_n 1) (sr := 0) (j := 1) (by decide +kernel) rfl rfl rfl) ?_
      refine gm_sz (fw_pi (pc := 49) (ix := 97) (ci := 1) (j := 1) (M' := gm_uM M33 16 1 (tx_v f e 4 (tx_n f e b))) (by decide +kernel) (e0k hE (k := 16) (c := 1) (by decide +kernel)) (by decide +kernel) (by decide +kernel) (by decide +kernel) rfl) ?_
      refine gm_sz (gm_p_load (pc := 52) (i := .aload_n 0) (sr := 2) (j := 0) (by decide +kernel) rfl rfl rfl) ?_
      refine gm_sz (fw_gr (pc := 53) (ix := 9) (ci := 7) (j := 2) (r := 16) (by decide +kernel) (e0k hE (k := 213) (c := 7) (by decide +kernel)) (by decide +kernel) (by decide +kernel) (e0r hE (k := 213) (j := 2) (r := 16) (by decide +kernel))) ?_
      refine gm_sz (gm_p_const (pc := 56) (i := .bipush 10) (v := gm_vi 10) (by decide +kernel) (by decide +kernel)) ?_
      refine gm_sz (fw_pi (pc := 58) (ix := 99) (ci := 1) (j := 2) (M' := gm_uM (gm_uM M33 16 1 (tx_v f e 4 (tx_n f e b))) 16 2 10) (by decide +kernel) (e0k hE (k := 16) (c := 1) (by decide +kernel)) (by decide +kernel) (by decide +kernel) (by decide +kernel) rfl) ?_
      refine gm_sz (gm_p_const (pc := 61) (i := .iconst 1) (v := gm_vi 1) (by decide +kernel) (by decide +kernel)) ?_
      have ev : v_last f e N b = (true, (tx_n f e (tx_n f e b)), (nup (nup N 1 (tx_v f e 4 (tx_n f e b))) 10 10)) := by
        unfold v_last
        rw [tif_t h4, tif_t h33]
        first | done | rfl
      rw [ev] at q1
      exact gm_r_int (pc := 62) (by decide +kernel) (Or.inr ⟨(by decide +kernel), Or.inr rfl⟩) (q1 _ (fr_p (fr_p (fr_t (fr_t fr_0 hf22 (by decide)) hf33 (by decide)) (Or.inl (by decide))) (Or.inl (by decide))) (cst_fr (W := [((214 : Nat), some (3 : Int)), ((214 : Nat), some (4 : Int)), ((214 : Nat), some (5 : Int)), ((214 : Nat), some (6 : Int)), ((214 : Nat), some (7 : Int)), ((16 : Nat), some (1 : Int)), ((16 : Nat), some (2 : Int))]) hC (fr_p (fr_p (fr_t (fr_t fr_0 hf22 (by decide)) hf33 (by decide)) (Or.inr (by decide))) (Or.inr (by decide))) (by decide +kernel)) (vw_fr (W := [((16 : Nat), some (1 : Int)), ((16 : Nat), some (2 : Int))]) hv33 (fr_p (fr_p fr_0 (Or.inr (by decide))) (Or.inr (by decide))) (by decide)) ((cs_f10 (b := 16)).trans (congrArg (fun V9 => nup V9 10 10) ((cs_f1 (b := 16)).trans (congrArg (fun V9 => nup V9 1 (tx_v f e 4 (tx_n f e b))) ((cs_frd hf33 (by decide)).trans ((cs_frd hf22 (by decide)).trans (hT))))))) rfl)
    · show gm_Wp X LX d _ _ 106 36 _ [gm_vi (-1)] n K _ _ Q
      have h33 : ¬ vn f e 10 99 (tx_n f e b) := h33
      refine gm_sz (gm_p_stor (pc := 36) (i := .istore_n 1) (sr := 0) (j := 1) (by decide +kernel) rfl (show 2 ≤ _ from Nat.le_of_ble_eq_true rfl) rfl) ?_
      refine gm_sz (gm_p_load (pc := 37) (i := .iload_n 1) (sr := 0) (j := 1) (by decide +kernel) rfl rfl rfl) ?_
      refine gm_sz (gm_p_const (pc := 38) (i := .iconst (-1)) (v := gm_vi (-1)) (by decide +kernel) (by decide +kernel)) ?_
      refine fw_icfd (cc := .ne) (pc := 39) (off := 5) (by decide +kernel) (by decide) ⟨by decide, by decide⟩ ⟨by decide, by decide⟩ (by decide) ?_
      refine gm_sz (gm_p_const (pc := 42) (i := .iconst 0) (v := gm_vi 0) (by decide +kernel) (by decide +kernel)) ?_
      have ev : v_last f e N b = (false, (tx_n f e b), N) := by
        unfold v_last
        rw [tif_t h4, tif_f h33]
        first | done | rfl
      rw [ev] at q0
      exact gm_r_int (pc := 43) (by decide +kernel) (Or.inr ⟨(by decide +kernel), Or.inl rfl⟩) (q0 _ (fr_t (fr_t fr_0 hf22 (by decide)) hf33 (by decide)) (cst_fr (W := [((214 : Nat), some (3 : Int)), ((214 : Nat), some (4 : Int)), ((214 : Nat), some (5 : Int)), ((214 : Nat), some (6 : Int)), ((214 : Nat), some (7 : Int))]) hC (fr_t (fr_t fr_0 hf22 (by decide)) hf33 (by decide)) (by decide +kernel)) hv33 (fun h => by cases h))
theorem vy_113 (hd : 7 ≤ d) (hE : E0 n K R) (hC : CST M) (hF : VF f e) (hV : VW f e b (-1) M) (hb : 0 ≤ b ∧ b ≤ e) (hT : cs M 16 = N) (hN : NR N) (q1 : ∀ M2, fr [((214 : Nat), some (3 : Int)), ((214 : Nat), some (4 : Int)), ((214 : Nat), some (5 : Int)), ((214 : Nat), some (6 : Int)), ((214 : Nat), some (7 : Int)), ((16 : Nat), none), ((17 : Nat), some (3 : Int)), ((18 : Nat), none), ((19 : Nat), some (3 : Int)), ((20 : Nat), none), ((21 : Nat), some (3 : Int)), ((22 : Nat), none), ((23 : Nat), some (3 : Int)), ((24 : Nat), none), ((25 : Nat), some (3 : Int)), ((26 : Nat), none)] M M2 → CST M2 → VW f e (v_stripe f e N b).2.1 (-1) M2 → cs M2 16 = (v_stripe f e N b).2.2 → (v_stripe f e N b).1 = true → Q (.inl (some (gm_vi 1))) n K R M2) (q0 : ∀ M2, fr [((214 : Nat), some (3 : Int)), ((214 : Nat), some (4 : Int)), ((214 : Nat), some (5 : Int)), ((214 : Nat), some (6 : Int)), ((214 : Nat), some (7 : Int)), ((16 : Nat), none), ((17 : Nat), some (3 : Int)), ((18 : Nat), none), ((19 : Nat), some (3 : Int)), ((20 : Nat), none), ((21 : Nat), some (3 : Int)), ((22 : Nat), none), ((23 : Nat), some (3 : Int)), ((24 : Nat), none), ((25 : Nat), some (3 : Int)), ((26 : Nat), none)] M M2 → CST M2 → VW f e (v_stripe f e N b).2.1 (v_stripe f e N b).2.1 M2 → ¬ (v_stripe f e N b).1 = true → Q (.inl (some (gm_vi 0))) n K R M2) : gm_Wp X LX d bc bs 113 0 (gm_ent 113 [gm_vr 213]) [] n K R M Q := by
  obtain ⟨⟨⟨a0, b0⟩, ⟨a1, b1⟩, ⟨a10, b10⟩, ⟨a11, b11⟩, ⟨a12, b12⟩, a9, b9⟩, ⟨⟨a2, b2⟩, ⟨a5, b5⟩, ⟨a3, b3⟩, ⟨a4, b4⟩, ⟨a6, b6⟩, ⟨a14, b14⟩, ⟨a7, b7⟩, a13, b13⟩, rF, rP, rL⟩ := id hN
  refine gm_sz (gm_p_load (pc := 0) (i := .aload_n 0) (sr := 2) (j := 0) (by decide +kernel) rfl rfl rfl) ?_
  refine gm_sz (fw_gr (pc := 1) (ix := 15) (ci := 7) (j := 0) (r := 214) (by decide +kernel) (e0k hE (k := 213) (c := 7) (by decide +kernel)) (by decide +kernel) (by decide +kernel) (e0r hE (k := 213) (j := 0) (r := 214) (by decide +kernel))) ?_
  refine gm_c_virt (k := 214) (ci := 8) (mj := 76) (ix := 84) (pc := 4) (as := []) (st := []) (d' := d - 1) (bc' := 0) (bs' := 0) (by decide +kernel) (by decide +kernel) (by decide +kernel) (by decide +kernel) (e0k hE (k := 214) (c := 8) (by decide +kernel)).1 (e0k hE (k := 214) (c := 8) (by decide +kernel)).2 (by decide) (by decide +kernel) (show 0 = gm_na 76 by decide +kernel) fw_c0 (show 1 ≤ gm_ml 76 by decide +kernel) (Nat.le_of_ble_eq_true rfl) (by omega) (Nat.zero_le _) (Nat.zero_le _) ?_
  refine vw_76 (by omega) hE hF hV hb (fun M4 hf4 hv4 => ?_)
  show gm_Wp X LX d _ _ 113 7 _ [] n K _ _ Q
  have hb4 := tx_nb (f := f) (e := e) (b := b) hb.2
  have hb4 : 0 ≤ tx_n f e b ∧ tx_n f e b ≤ e := ⟨by have := hb.1; omega, hb4.2.1⟩
  refine gm_sz (gm_p_load (pc := 7) (i := .aload_n 0) (sr := 2) (j := 0) (by decide +kernel) rfl rfl rfl) ?_
  refine gm_sz (fw_gr (pc := 8) (ix := 15) (ci := 7) (j := 0) (r := 214) (by decide +kernel) (e0k hE (k := 213) (c := 7) (by decide +kernel)) (by decide +kernel) (by decide +kernel) (e0r hE (k := 213) (j := 0) (r := 214) (by decide +kernel))) ?_
  refine gm_sz (gm_p_const (pc := 11) (i := .iconst 0) (v := gm_vi 0) (by decide +kernel) (by decide +kernel)) ?_
  refine gm_sz (gm_p_load (pc := 12) (i := .aload_n 0) (sr := 2) (j := 0) (by decide +kernel) rfl rfl rfl) ?_
  refine gm_sz (fw_gr (pc := 13) (ix := 9) (ci := 7) (j := 2) (r := 16) (by decide +kernel) (e0k hE (k := 213) (c := 7) (by decide +kernel)) (by decide +kernel) (by decide +kernel) (e0r hE (k := 213) (j := 2) (r := 16) (by decide +kernel))) ?_
  refine gm_sz (fw_gi (pc := 16) (ix := 92) (ci := 1) (j := 0) (x := (N 0)) (by decide +kernel) (e0k hE (k := 16) (c := 1) (by decide +kernel)) (by decide +kernel) (by decide +kernel) ((fr_c hf4 (by decide)).trans (dr_0 hT))) ?_
  refine gm_c_virt (k := 214) (ci := 8) (mj := 94) (ix := 88) (pc := 19) (as := [gm_vi 0, gm_vi (N 0)]) (st := []) (d' := d - 1) (bc' := 0) (bs' := 0) (by decide +kernel) (by decide +kernel) (by decide +kernel) (by decide +kernel) (e0k hE (k := 214) (c := 8) (by decide +kernel)).1 (e0k hE (k := 214) (c := 8) (by decide +kernel)).2 (by decide) (by decide +kernel) (show 2 = gm_na 94 by decide +kernel) (fw_c2 fw_si fw_si) (show 3 ≤ gm_ml 94 by decide +kernel) (Nat.le_of_ble_eq_true rfl) (by omega) (Nat.zero_le _) (Nat.zero_le _) ?_
  refine vw_94 (by omega) hE hF hv4 ⟨by decide, by decide⟩ ⟨by omega, by omega⟩ hb4 (fun h19 M19 hf19 hv19 => ?_) (fun h19 M19 hf19 hv19 => ?_)
  · show gm_Wp X LX d _ _ 113 22 _ [gm_vi (tx_v f e 4 (tx_n f e b))] n K _ _ Q
    have h19 : vn f e 0 (N 0) (tx_n f e b) := h19
    have hr19 : 0 ≤ tx_v f e 4 (tx_n f e b) ∧ tx_v f e 4 (tx_n f e b) ≤ (N 0) := h19.2
    have hb19 := tx_nb (f := f) (e := e) (b := (tx_n f e b)) hb4.2
    have hb19 : 0 ≤ tx_n f e (tx_n f e b) ∧ tx_n f e (tx_n f e b) ≤ e := ⟨by have := hb4.1; omega, hb19.2.1⟩
    refine gm_sz (gm_p_stor (pc := 22) (i := .istore_n 1) (sr := 0) (j := 1) (by decide +kernel) rfl (show 2 ≤ _ from Nat.le_of_ble_eq_true rfl) rfl) ?_
    refine gm_sz (gm_p_load (pc := 23) (i := .iload_n 1) (sr := 0) (j := 1) (by decide +kernel) rfl rfl rfl) ?_
    refine gm_sz (gm_p_const (pc := 24) (i := .iconst (-1)) (v := gm_vi (-1)) (by decide +kernel) (by decide +kernel)) ?_
    refine fw_ict (cc := .ne) (pc := 25) (off := 5) (by decide +kernel) (by decide) ⟨by omega, by omega⟩ ⟨by decide, by decide⟩ (show ¬ (tx_v f e 4 (tx_n f e b)) = (-1) by omega) ?_
    refine gm_sz (gm_p_load (pc := 30) (i := .aload_n 0) (sr := 2) (j := 0) (by decide +kernel) rfl rfl rfl) ?_
    refine gm_sz (fw_gr (pc := 31) (ix := 9) (ci := 7) (j := 2) (r := 16) (by decide +kernel) (e0k hE (k := 213) (c := 7) (by decide +kernel)) (by decide +kernel) (by decide +kernel) (e0r hE (k := 213) (j := 2) (r := 16) (by decide +kernel))) ?_
    refine gm_sz (gm_p_load (pc := 34) (i := .iload_n 1) (sr := 0) (j := 1) (by decide +kernel) rfl rfl rfl) ?_
    refine gm_sz (fw_pi (pc := 35) (ix := 95) (ci := 1) (j := 4) (M' := gm_uM M19 16 4 (tx_v f e 4 (tx_n f e b))) (by decide +kernel) (e0k hE (k := 16) (c := 1) (by decide +kernel)) (by decide +kernel) (by decide +kernel) (by decide +kernel) rfl) ?_
    refine gm_sz (gm_p_const (pc := 38) (i := .iconst 1) (v := gm_vi 1) (by decide +kernel) (by decide +kernel)) ?_
    have ev : v_stripe f e N b = (true, (tx_n f e (tx_n f e b)), (nup N 12 (tx_v f e 4 (tx_n f e b)))) := by
      unfold v_stripe
      rw [tif_t h19]
      first | done | rfl
    rw [ev] at q1
    exact gm_r_int (pc := 39) (by decide +kernel) (Or.inr ⟨(by decide +kernel), Or.inr rfl⟩) (q1 _ (fr_p (fr_t (fr_t fr_0 hf4 (by decide)) hf19 (by decide)) (Or.inl (by decide))) (cst_fr (W := [((214 : Nat), some (3 : Int)), ((214 : Nat), some (4 : Int)), ((214 : Nat), some (5 : Int)), ((214 : Nat), some (6 : Int)), ((214 : Nat), some (7 : Int)), ((16 : Nat), some (4 : Int))]) hC (fr_p (fr_t (fr_t fr_0 hf4 (by decide)) hf19 (by decide)) (Or.inr (by decide))) (by decide +kernel)) (vw_fr (W := [((16 : Nat), some (4 : Int))]) hv19 (fr_p fr_0 (Or.inr (by decide))) (by decide)) ((cs_f12 (b := 16)).trans (congrArg (fun V9 => nup V9 12 (tx_v f e 4 (tx_n f e b))) ((cs_frd hf19 (by decide)).trans ((cs_frd hf4 (by decide)).trans (hT))))) rfl)
  · show gm_Wp X LX d _ _ 113 22 _ [gm_vi (-1)] n K _ _ Q
    have h19 : ¬ vn f e 0 (N 0) (tx_n f e b) := h19
    refine gm_sz (gm_p_stor (pc := 22) (i := .istore_n 1) (sr := 0) (j := 1) (by decide +kernel) rfl (show 2 ≤ _ from Nat.le_of_ble_eq_true rfl) rfl) ?_
    refine gm_sz (gm_p_load (pc := 23) (i := .iload_n 1) (sr := 0) (j := 1) (by decide +kernel) rfl rfl rfl) ?_
    refine gm_sz (gm_p_const (pc := 24) (i := .iconst (-1)) (v := gm_vi (-1)) (by decide +kernel) (by decide +kernel)) ?_
    refine fw_icfd (cc := .ne) (pc := 25) (off := 5) (by decide +kernel) (by decide) ⟨by decide, by decide⟩ ⟨by decide, by decide⟩ (by decide) ?_
    refine gm_sz (gm_p_const (pc := 28) (i := .iconst 0) (v := gm_vi 0) (by decide +kernel) (by decide +kernel)) ?_
    have ev : v_stripe f e N b = (false, (tx_n f e b), N) := by
      unfold v_stripe
      rw [tif_f h19]
      first | done | rfl
    rw [ev] at q0
    exact gm_r_int (pc := 29) (by decide +kernel) (Or.inr ⟨(by decide +kernel), Or.inl rfl⟩) (q0 _ (fr_t (fr_t fr_0 hf4 (by decide)) hf19 (by decide)) (cst_fr (W := [((214 : Nat), some (3 : Int)), ((214 : Nat), some (4 : Int)), ((214 : Nat), some (5 : Int)), ((214 : Nat), some (6 : Int)), ((214 : Nat), some (7 : Int))]) hC (fr_t (fr_t fr_0 hf4 (by decide)) hf19 (by decide)) (by decide +kernel)) hv19 (fun h => by cases h))
theorem vy_114 (hd : 7 ≤ d) (hE : E0 n K R) (hC : CST M) (hF : VF f e) (hV : VW f e b (-1) M) (hb : 0 ≤ b ∧ b ≤ e) (hT : cs M 16 = N) (hN : NR N) (q1 : ∀ M2, fr [((214 : Nat), some (3 : Int)), ((214 : Nat), some (4 : Int)), ((214 : Nat), some (5 : Int)), ((214 : Nat), some (6 : Int)), ((214 : Nat), some (7 : Int)), ((16 : Nat), none), ((17 : Nat), some (3 : Int)), ((18 : Nat), none), ((19 : Nat), some (3 : Int)), ((20 : Nat), none), ((21 : Nat), some (3 : Int)), ((22 : Nat), none), ((23 : Nat), some (3 : Int)), ((24 : Nat), none), ((25 : Nat), some (3 : Int)), ((26 : Nat), none)] M M2 → CST M2 → VW f e (v_seed f e N b).2.1 (-1) M2 → cs M2 16 = (v_seed f e N b).2.2 → (v_seed f e N b).1 = true → Q (.inl (some (gm_vi 1))) n K R M2) (q0 : ∀ M2, fr [((214 : Nat), some (3 : Int)), ((214 : Nat), some (4 : Int)), ((214 : Nat), some (5 : Int)), ((214 : Nat), some (6 : Int)), ((214 : Nat), some (7 : Int)), ((16 : Nat), none), ((17 : Nat), some (3 : Int)), ((18 : Nat), none), ((19 : Nat), some (3 : Int)), ((20 : Nat), none), ((21 : Nat), some (3 : Int)), ((22 : Nat), none), ((23 : Nat), some (3 : Int)), ((24 : Nat), none), ((25 : Nat), some (3 : Int)), ((26 : Nat), none)] M M2 → CST M2 → VW f e (v_seed f e N b).2.1 (v_seed f e N b).2.1 M2 → ¬ (v_seed f e N b).1 = true → Q (.inl (some (gm_vi 0))) n K R M2) : gm_Wp X LX d bc bs 114 0 (gm_ent 114 [gm_vr 213]) [] n K R M Q := by
  obtain ⟨⟨⟨a0, b0⟩, ⟨a1, b1⟩, ⟨a10, b10⟩, ⟨a11, b11⟩, ⟨a12, b12⟩, a9, b9⟩, ⟨⟨a2, b2⟩, ⟨a5, b5⟩, ⟨a3, b3⟩, ⟨a4, b4⟩, ⟨a6, b6⟩, ⟨a14, b14⟩, ⟨a7, b7⟩, a13, b13⟩, rF, rP, rL⟩ := id hN
  refine gm_sz (gm_p_load (pc := 0) (i := .aload_n 0) (sr := 2) (j := 0) (by decide +kernel) rfl rfl rfl) ?_
  refine gm_sz (fw_gr (pc := 1) (ix := 15) (ci := 7) (j := 0) (r := 214) (by decide +kernel) (e0k hE (k := 213) (c := 7) (by decide +kernel)) (by decide +kernel) (by decide +kernel) (e0r hE (k := 213) (j := 0) (r := 214) (by decide +kernel))) ?_
  refine gm_c_virt (k := 214) (ci := 8) (mj := 76) (ix := 84) (pc := 4) (as := []) (st := []) (d' := d - 1) (bc' := 0) (bs' := 0) (by decide +kernel) (by decide +kernel) (by decide +kernel) (by decide +kernel) (e0k hE (k := 214) (c := 8) (by decide +kernel)).1 (e0k hE (k := 214) (c := 8) (by decide +kernel)).2 (by decide) (by decide +kernel) (show 0 = gm_na 76 by decide +kernel) fw_c0 (show 1 ≤ gm_ml 76 by decide +kernel) (Nat.le_of_ble_eq_true rfl) (by omega) (Nat.zero_le _) (Nat.zero_le _) ?_
  refine vw_76 (by omega) hE hF hV hb (fun M4 hf4 hv4 => ?_)
  show gm_Wp X LX d _ _ 114 7 _ [] n K _ _ Q
  have hb4 := tx_nb (f := f) (e := e) (b := b) hb.2
  have hb4 : 0 ≤ tx_n f e b ∧ tx_n f e b ≤ e := ⟨by have := hb.1; omega, hb4.2.1⟩
  refine gm_sz (gm_p_load (pc := 7) (i := .aload_n 0) (sr := 2) (j := 0) (by decide +kernel) rfl rfl rfl) ?_
  refine gm_sz (fw_gr (pc := 8) (ix := 15) (ci := 7) (j := 0) (r := 214) (by decide +kernel) (e0k hE (k := 213) (c := 7) (by decide +kernel)) (by decide +kernel) (by decide +kernel) (e0r hE (k := 213) (j := 0) (r := 214) (by decide +kernel))) ?_
  refine gm_sz (gm_p_const (pc := 11) (i := .iconst 0) (v := gm_vi 0) (by decide +kernel) (by decide +kernel)) ?_
  refine gm_sz (gm_p_const (pc := 12) (i := .sipush 9999) (v := gm_vi 9999) (by decide +kernel) (by decide +kernel)) ?_
  refine gm_c_virt (k := 214) (ci := 8) (mj := 94) (ix := 88) (pc := 15) (as := [gm_vi 0, gm_vi 9999]) (st := []) (d' := d - 1) (bc' := 0) (bs' := 0) (by decide +kernel) (by decide +kernel) (by decide +kernel) (by decide +kernel) (e0k hE (k := 214) (c := 8) (by decide +kernel)).1 (e0k hE (k := 214) (c := 8) (by decide +kernel)).2 (by decide) (by decide +kernel) (show 2 = gm_na 94 by decide +kernel) (fw_c2 fw_si fw_si) (show 3 ≤ gm_ml 94 by decide +kernel) (Nat.le_of_ble_eq_true rfl) (by omega) (Nat.zero_le _) (Nat.zero_le _) ?_
  refine vw_94 (by omega) hE hF hv4 ⟨by decide, by decide⟩ ⟨by decide, by decide⟩ hb4 (fun h15 M15 hf15 hv15 => ?_) (fun h15 M15 hf15 hv15 => ?_)
  · show gm_Wp X LX d _ _ 114 18 _ [gm_vi (tx_v f e 4 (tx_n f e b))] n K _ _ Q
    have h15 : vn f e 0 9999 (tx_n f e b) := h15
    have hr15 : 0 ≤ tx_v f e 4 (tx_n f e b) ∧ tx_v f e 4 (tx_n f e b) ≤ 9999 := h15.2
    have hb15 := tx_nb (f := f) (e := e) (b := (tx_n f e b)) hb4.2
    have hb15 : 0 ≤ tx_n f e (tx_n f e b) ∧ tx_n f e (tx_n f e b) ≤ e := ⟨by have := hb4.1; omega, hb15.2.1⟩
    refine gm_sz (gm_p_stor (pc := 18) (i := .istore_n 1) (sr := 0) (j := 1) (by decide +kernel) rfl (show 2 ≤ _ from Nat.le_of_ble_eq_true rfl) rfl) ?_
    refine gm_sz (gm_p_load (pc := 19) (i := .iload_n 1) (sr := 0) (j := 1) (by decide +kernel) rfl rfl rfl) ?_
    refine gm_sz (gm_p_const (pc := 20) (i := .iconst (-1)) (v := gm_vi (-1)) (by decide +kernel) (by decide +kernel)) ?_
    refine fw_ict (cc := .ne) (pc := 21) (off := 5) (by decide +kernel) (by decide) ⟨by omega, by omega⟩ ⟨by decide, by decide⟩ (show ¬ (tx_v f e 4 (tx_n f e b)) = (-1) by omega) ?_
    refine gm_sz (gm_p_load (pc := 26) (i := .aload_n 0) (sr := 2) (j := 0) (by decide +kernel) rfl rfl rfl) ?_
    refine gm_sz (fw_gr (pc := 27) (ix := 9) (ci := 7) (j := 2) (r := 16) (by decide +kernel) (e0k hE (k := 213) (c := 7) (by decide +kernel)) (by decide +kernel) (by decide +kernel) (e0r hE (k := 213) (j := 2) (r := 16) (by decide +kernel))) ?_
    refine gm_sz (gm_p_load (pc := 30) (i := .iload_n 1) (sr := 0) (j := 1) (by decide +kernel) rfl rfl rfl) ?_
    refine gm_sz (fw_pi (pc := 31) (ix := 138) (ci := 1) (j := 5) (M' := gm_uM M15 16 5 (tx_v f e 4 (tx_n f e b))) (by decide +kernel) (e0k hE (k := 16) (c := 1) (by decide +kernel)) (by decide +kernel) (by decide +kernel) (by decide +kernel) rfl) ?_
    refine gm_sz (gm_p_const (pc := 34) (i := .iconst 1) (v := gm_vi 1) (by decide +kernel) (by decide +kernel)) ?_
    have ev : v_seed f e N b = (true, (tx_n f e (tx_n f e b)), (nup N 13 (tx_v f e 4 (tx_n f e b)))) := by
      unfold v_seed
      rw [tif_t h15]
      first | done | rfl
    rw [ev] at q1
    exact gm_r_int (pc := 35) (by decide +kernel) (Or.inr ⟨(by decide +kernel), Or.inr rfl⟩) (q1 _ (fr_p (fr_t (fr_t fr_0 hf4 (by decide)) hf15 (by decide)) (Or.inl (by decide))) (cst_fr (W := [((214 : Nat), some (3 : Int)), ((214 : Nat), some (4 : Int)), ((214 : Nat), some (5 : Int)), ((214 : Nat), some (6 : Int)), ((214 : Nat), some (7 : Int)), ((16 : Nat), some (5 : Int))]) hC (fr_p (fr_t (fr_t fr_0 hf4 (by decide)) hf15 (by decide)) (Or.inr (by decide))) (by decide +kernel)) (vw_fr (W := [((16 : Nat), some (5 : Int))]) hv15 (fr_p fr_0 (Or.inr (by decide))) (by decide)) ((cs_f13 (b := 16)).trans (congrArg (fun V9 => nup V9 13 (tx_v f e 4 (tx_n f e b))) ((cs_frd hf15 (by decide)).trans ((cs_frd hf4 (by decide)).trans (hT))))) rfl)
  · show gm_Wp X LX d _ _ 114 18 _ [gm_vi (-1)] n K _ _ Q
    have h15 : ¬ vn f e 0 9999 (tx_n f e b) := h15
    refine gm_sz (gm_p_stor (pc := 18) (i := .istore_n 1) (sr := 0) (j := 1) (by decide +kernel) rfl (show 2 ≤ _ from Nat.le_of_ble_eq_true rfl) rfl) ?_
    refine gm_sz (gm_p_load (pc := 19) (i := .iload_n 1) (sr := 0) (j := 1) (by decide +kernel) rfl rfl rfl) ?_
    refine gm_sz (gm_p_const (pc := 20) (i := .iconst (-1)) (v := gm_vi (-1)) (by decide +kernel) (by decide +kernel)) ?_
    refine fw_icfd (cc := .ne) (pc := 21) (off := 5) (by decide +kernel) (by decide) ⟨by decide, by decide⟩ ⟨by decide, by decide⟩ (by decide) ?_
    refine gm_sz (gm_p_const (pc := 24) (i := .iconst 0) (v := gm_vi 0) (by decide +kernel) (by decide +kernel)) ?_
    have ev : v_seed f e N b = (false, (tx_n f e b), N) := by
      unfold v_seed
      rw [tif_f h15]
      first | done | rfl
    rw [ev] at q0
    exact gm_r_int (pc := 25) (by decide +kernel) (Or.inr ⟨(by decide +kernel), Or.inl rfl⟩) (q0 _ (fr_t (fr_t fr_0 hf4 (by decide)) hf15 (by decide)) (cst_fr (W := [((214 : Nat), some (3 : Int)), ((214 : Nat), some (4 : Int)), ((214 : Nat), some (5 : Int)), ((214 : Nat), some (6 : Int)), ((214 : Nat), some (7 : Int))]) hC (fr_t (fr_t fr_0 hf4 (by decide)) hf15 (by decide)) (by decide +kernel)) hv15 (fun h => by cases h))
theorem vy_110 (hd : 8 ≤ d) (hE : E0 n K R) (hC : CST M) (hF : VF f e) (hV : VW f e b (-1) M) (hb : 0 ≤ b ∧ b ≤ e) (hT : cs M 16 = N) (hN : NR N) (q1 : ∀ M2, fr [((214 : Nat), some (3 : Int)), ((214 : Nat), some (4 : Int)), ((214 : Nat), some (5 : Int)), ((214 : Nat), some (6 : Int)), ((214 : Nat), some (7 : Int)), ((16 : Nat), none), ((17 : Nat), some (3 : Int)), ((18 : Nat), none), ((19 : Nat), some (3 : Int)), ((20 : Nat), none), ((21 : Nat), some (3 : Int)), ((22 : Nat), none), ((23 : Nat), some (3 : Int)), ((24 : Nat), none), ((25 : Nat), some (3 : Int)), ((26 : Nat), none)] M M2 → CST M2 → VW f e (v_snow f e N b).2.1 (-1) M2 → cs M2 16 = (v_snow f e N b).2.2 → (v_snow f e N b).1 = true → Q (.inl (some (gm_vi 1))) n K R M2) (q0 : ∀ M2, fr [((214 : Nat), some (3 : Int)), ((214 : Nat), some (4 : Int)), ((214 : Nat), some (5 : Int)), ((214 : Nat), some (6 : Int)), ((214 : Nat), some (7 : Int)), ((16 : Nat), none), ((17 : Nat), some (3 : Int)), ((18 : Nat), none), ((19 : Nat), some (3 : Int)), ((20 : Nat), none), ((21 : Nat), some (3 : Int)), ((22 : Nat), none), ((23 : Nat), some (3 : Int)), ((24 : Nat), none), ((25 : Nat), some (3 : Int)), ((26 : Nat), none)] M M2 → CST M2 → VW f e (v_snow f e N b).2.1 (v_snow f e N b).2.1 M2 → ¬ (v_snow f e N b).1 = true → Q (.inl (some (gm_vi 0))) n K R M2) : gm_Wp X LX d bc bs 110 0 (gm_ent 110 [gm_vr 213]) [] n K R M Q := by
  obtain ⟨⟨⟨a0, b0⟩, ⟨a1, b1⟩, ⟨a10, b10⟩, ⟨a11, b11⟩, ⟨a12, b12⟩, a9, b9⟩, ⟨⟨a2, b2⟩, ⟨a5, b5⟩, ⟨a3, b3⟩, ⟨a4, b4⟩, ⟨a6, b6⟩, ⟨a14, b14⟩, ⟨a7, b7⟩, a13, b13⟩, rF, rP, rL⟩ := id hN
  refine gm_sz (gm_p_load (pc := 0) (i := .aload_n 0) (sr := 2) (j := 0) (by decide +kernel) rfl rfl rfl) ?_
  refine gm_sz (fw_gr (pc := 1) (ix := 15) (ci := 7) (j := 0) (r := 214) (by decide +kernel) (e0k hE (k := 213) (c := 7) (by decide +kernel)) (by decide +kernel) (by decide +kernel) (e0r hE (k := 213) (j := 0) (r := 214) (by decide +kernel))) ?_
  refine gm_c_virt (k := 214) (ci := 8) (mj := 76) (ix := 84) (pc := 4) (as := []) (st := []) (d' := d - 1) (bc' := 0) (bs' := 0) (by decide +kernel) (by decide +kernel) (by decide +kernel) (by decide +kernel) (e0k hE (k := 214) (c := 8) (by decide +kernel)).1 (e0k hE (k := 214) (c := 8) (by decide +kernel)).2 (by decide) (by decide +kernel) (show 0 = gm_na 76 by decide +kernel) fw_c0 (show 1 ≤ gm_ml 76 by decide +kernel) (Nat.le_of_ble_eq_true rfl) (by omega) (Nat.zero_le _) (Nat.zero_le _) ?_
  refine vw_76 (by omega) hE hF hV hb (fun M4 hf4 hv4 => ?_)
  show gm_Wp X LX d _ _ 110 7 _ [] n K _ _ Q
  have hb4 := tx_nb (f := f) (e := e) (b := b) hb.2
  have hb4 : 0 ≤ tx_n f e b ∧ tx_n f e b ≤ e := ⟨by have := hb.1; omega, hb4.2.1⟩
  refine gm_sz (gm_p_load (pc := 7) (i := .aload_n 0) (sr := 2) (j := 0) (by decide +kernel) rfl rfl rfl) ?_
  refine gm_c_virt (k := 213) (ci := 7) (mj := 111) (ix := 128) (pc := 8) (as := []) (st := []) (d' := d - 1) (bc' := 0) (bs' := 0) (by decide +kernel) (by decide +kernel) (by decide +kernel) (by decide +kernel) (e0k hE (k := 213) (c := 7) (by decide +kernel)).1 (e0k hE (k := 213) (c := 7) (by decide +kernel)).2 (by decide) (by decide +kernel) (show 0 = gm_na 111 by decide +kernel) fw_c0 (show 1 ≤ gm_ml 111 by decide +kernel) (Nat.le_of_ble_eq_true rfl) (by omega) (Nat.zero_le _) (Nat.zero_le _) ?_
  refine vy_111 (by omega) hE (cst_fr (W := [((214 : Nat), some (3 : Int)), ((214 : Nat), some (4 : Int)), ((214 : Nat), some (5 : Int)), ((214 : Nat), some (6 : Int)), ((214 : Nat), some (7 : Int))]) hC (fr_t fr_0 hf4 (by decide)) (by decide +kernel)) hF hv4 hb4 ((cs_frd hf4 (by decide)).trans (hT)) hN (fun h8 M8 hf8 hv8 => ?_) (fun h8 M8 hf8 hv8 => ?_)
  · show gm_Wp X LX d _ _ 110 11 _ [gm_vi (tx_v f e 4 (tx_n f e b))] n K _ _ Q
    have h8 : vn f e 0 ((N 1) - 1) (tx_n f e b) := h8
    have hr8 : 0 ≤ tx_v f e 4 (tx_n f e b) ∧ tx_v f e 4 (tx_n f e b) ≤ (N 1) - 1 := h8.2
    have hb8 := tx_nb (f := f) (e := e) (b := (tx_n f e b)) hb4.2
    have hb8 : 0 ≤ tx_n f e (tx_n f e b) ∧ tx_n f e (tx_n f e b) ≤ e := ⟨by have := hb4.1; omega, hb8.2.1⟩
    refine gm_sz (gm_p_stor (pc := 11) (i := .istore_n 1) (sr := 0) (j := 1) (by decide +kernel) rfl (show 2 ≤ _ from Nat.le_of_ble_eq_true rfl) rfl) ?_
    refine gm_sz (gm_p_load (pc := 12) (i := .iload_n 1) (sr := 0) (j := 1) (by decide +kernel) rfl rfl rfl) ?_
    refine gm_sz (gm_p_const (pc := 13) (i := .iconst (-1)) (v := gm_vi (-1)) (by decide +kernel) (by decide +kernel)) ?_
    refine fw_icf (cc := .eq) (pc := 14) (off := 15) (by decide +kernel) (by decide) ⟨by omega, by omega⟩ ⟨by decide, by decide⟩ (show ¬ (tx_v f e 4 (tx_n f e b)) = (-1) by omega) ?_
    refine gm_sz (gm_p_load (pc := 17) (i := .aload_n 0) (sr := 2) (j := 0) (by decide +kernel) rfl rfl rfl) ?_
    refine gm_sz (fw_gr (pc := 18) (ix := 15) (ci := 7) (j := 0) (r := 214) (by decide +kernel) (e0k hE (k := 213) (c := 7) (by decide +kernel)) (by decide +kernel) (by decide +kernel) (e0r hE (k := 213) (j := 0) (r := 214) (by decide +kernel))) ?_
    refine gm_sz (gm_p_ldcs (pc := 21) (i := .ldc 131) (ix := 131) (id := 21) (by decide +kernel) (Or.inl rfl) (by decide +kernel)) ?_
    refine gm_c_virt (k := 214) (ci := 8) (mj := 112) (ix := 133) (pc := 23) (as := [gm_vo 21]) (st := []) (d' := d - 1) (bc' := 0) (bs' := 0) (by decide +kernel) (by decide +kernel) (by decide +kernel) (by decide +kernel) (e0k hE (k := 214) (c := 8) (by decide +kernel)).1 (e0k hE (k := 214) (c := 8) (by decide +kernel)).2 (by decide) (by decide +kernel) (show 1 = gm_na 112 by decide +kernel) (fw_c1 fw_so) (show 2 ≤ gm_ml 112 by decide +kernel) (Nat.le_of_ble_eq_true rfl) (by omega) (Nat.zero_le _) (Nat.zero_le _) ?_
    refine vw_112 (by omega) hE hF hv8 (by decide) (show tx_o 21 = wv_fall by decide +kernel) hb8 (fun h23 M23 hf23 hv23 => ?_) (fun h23 M23 hf23 hv23 => ?_)
    · show gm_Wp X LX d _ _ 110 26 _ [gm_vi 1] n K _ _ Q
      have h23 : tx_is f e (tx_n f e (tx_n f e b)) wv_fall := h23
      have hb23 := tx_nb (f := f) (e := e) (b := (tx_n f e (tx_n f e b))) hb8.2
      have hb23 : 0 ≤ tx_n f e (tx_n f e (tx_n f e b)) ∧ tx_n f e (tx_n f e (tx_n f e b)) ≤ e := ⟨by have := hb8.1; omega, hb23.2.1⟩
      refine fw_iftd (cc := .ne) (pc := 26) (off := 5) (by decide +kernel) (by decide) ⟨by decide, by decide⟩ (by decide) ?_
      refine gm_sz (gm_p_load (pc := 31) (i := .aload_n 0) (sr := 2) (j := 0) (by decide +kernel) rfl rfl rfl) ?_
      refine gm_sz (fw_gr (pc := 32) (ix := 15) (ci := 7) (j := 0) (r := 214) (by decide +kernel) (e0k hE (k := 213) (c := 7) (by decide +kernel)) (by decide +kernel) (by decide +kernel) (e0r hE (k := 213) (j := 0) (r := 214) (by decide +kernel))) ?_
      refine gm_sz (gm_p_const (pc := 35) (i := .iconst 0) (v := gm_vi 0) (by decide +kernel) (by decide +kernel)) ?_
      refine gm_sz (gm_p_const (pc := 36) (i := .bipush 9) (v := gm_vi 9) (by decide +kernel) (by decide +kernel)) ?_
      refine gm_c_virt (k := 214) (ci := 8) (mj := 94) (ix := 88) (pc := 38) (as := [gm_vi 0, gm_vi 9]) (st := []) (d' := d - 1) (bc' := 0) (bs' := 0) (by decide +kernel) (by decide +kernel) (by decide +kernel) (by decide +kernel) (e0k hE (k := 214) (c := 8) (by decide +kernel)).1 (e0k hE (k := 214) (c := 8) (by decide +kernel)).2 (by decide) (by decide +kernel) (show 2 = gm_na 94 by decide +kernel) (fw_c2 fw_si fw_si) (show 3 ≤ gm_ml 94 by decide +kernel) (Nat.le_of_ble_eq_true rfl) (by omega) (Nat.zero_le _) (Nat.zero_le _) ?_
      refine vw_94 (by omega) hE hF hv23 ⟨by decide, by decide⟩ ⟨by decide, by decide⟩ hb23 (fun h38 M38 hf38 hv38 => ?_) (fun h38 M38 hf38 hv38 => ?_)
      · show gm_Wp X LX d _ _ 110 41 _ [gm_vi (tx_v f e 4 (tx_n f e (tx_n f e (tx_n f e b))))] n K _ _ Q
        have h38 : vn f e 0 9 (tx_n f e (tx_n f e (tx_n f e b))) := h38
        have hr38 : 0 ≤ tx_v f e 4 (tx_n f e (tx_n f e (tx_n f e b))) ∧ tx_v f e 4 (tx_n f e (tx_n f e (tx_n f e b))) ≤ 9 := h38.2
        have hb38 := tx_nb (f := f) (e := e) (b := (tx_n f e (tx_n f e (tx_n f e b)))) hb23.2
        have hb38 : 0 ≤ tx_n f e (tx_n f e (tx_n f e (tx_n f e b))) ∧ tx_n f e (tx_n f e (tx_n f e (tx_n f e b))) ≤ e := ⟨by have := hb23.1; omega, hb38.2.1⟩
        refine gm_sz (gm_p_stor (pc := 41) (i := .istore_n 2) (sr := 0) (j := 2) (by decide +kernel) rfl (show 3 ≤ _ from Nat.le_of_ble_eq_true rfl) rfl) ?_
        refine gm_sz (gm_p_load (pc := 42) (i := .iload_n 2) (sr := 0) (j := 2) (by decide +kernel) rfl rfl rfl) ?_
        refine gm_sz (gm_p_const (pc := 43) (i := .iconst (-1)) (v := gm_vi (-1)) (by decide +kernel) (by decide +kernel)) ?_
        refine fw_ict (cc := .ne) (pc := 44) (off := 5) (by decide +kernel) (by decide) ⟨by omega, by omega⟩ ⟨by decide, by decide⟩ (show ¬ (tx_v f e 4 (tx_n f e (tx_n f e (tx_n f e b)))) = (-1) by omega) ?_
        refine gm_sz (gm_p_load (pc := 49) (i := .aload_n 0) (sr := 2) (j := 0) (by decide +kernel) rfl rfl rfl) ?_
        refine gm_sz (fw_gr (pc := 50) (ix := 9) (ci := 7) (j := 2) (r := 16) (by decide +kernel) (e0k hE (k := 213) (c := 7) (by decide +kernel)) (by decide +kernel) (by decide +kernel) (e0r hE (k := 213) (j := 2) (r := 16) (by decide +kernel))) ?_
        refine gm_sz (gm_p_load (pc := 53) (i := .iload_n 1) (sr := 0) (j := 1) (by decide +kernel) rfl rfl rfl) ?_
        refine gm_sz (fw_pi (pc := 54) (ix := 99) (ci := 1) (j := 2) (M' := gm_uM M38 16 2 (tx_v f e 4 (tx_n f e b))) (by decide +kernel) (e0k hE (k := 16) (c := 1) (by decide +kernel)) (by decide +kernel) (by decide +kernel) (by decide +kernel) rfl) ?_
        refine gm_sz (gm_p_load (pc := 57) (i := .aload_n 0) (sr := 2) (j := 0) (by decide +kernel) rfl rfl rfl) ?_
        refine gm_sz (fw_gr (pc := 58) (ix := 9) (ci := 7) (j := 2) (r := 16) (by decide +kernel) (e0k hE (k := 213) (c := 7) (by decide +kernel)) (by decide +kernel) (by decide +kernel) (e0r hE (k := 213) (j := 2) (r := 16) (by decide +kernel))) ?_
        refine gm_sz (gm_p_load (pc := 61) (i := .iload_n 2) (sr := 0) (j := 2) (by decide +kernel) rfl rfl rfl) ?_
        refine gm_sz (fw_pi (pc := 62) (ix := 136) (ci := 1) (j := 3) (M' := gm_uM (gm_uM M38 16 2 (tx_v f e 4 (tx_n f e b))) 16 3 (tx_v f e 4 (tx_n f e (tx_n f e (tx_n f e b))))) (by decide +kernel) (e0k hE (k := 16) (c := 1) (by decide +kernel)) (by decide +kernel) (by decide +kernel) (by decide +kernel) rfl) ?_
        refine gm_sz (gm_p_const (pc := 65) (i := .iconst 1) (v := gm_vi 1) (by decide +kernel) (by decide +kernel)) ?_
        have ev : v_snow f e N b = (true, (tx_n f e (tx_n f e (tx_n f e (tx_n f e b)))), (nup (nup N 10 (tx_v f e 4 (tx_n f e b))) 11 (tx_v f e 4 (tx_n f e (tx_n f e (tx_n f e b)))))) := by
          unfold v_snow
          rw [tif_t h8, tif_t h23, tif_t h38]
          first | done | rfl
        rw [ev] at q1
        exact gm_r_int (pc := 66) (by decide +kernel) (Or.inr ⟨(by decide +kernel), Or.inr rfl⟩) (q1 _ (fr_p (fr_p (fr_t (fr_t (fr_t (fr_t fr_0 hf4 (by decide)) hf8 (by decide)) hf23 (by decide)) hf38 (by decide)) (Or.inl (by decide))) (Or.inl (by decide))) (cst_fr (W := [((214 : Nat), some (3 : Int)), ((214 : Nat), some (4 : Int)), ((214 : Nat), some (5 : Int)), ((214 : Nat), some (6 : Int)), ((214 : Nat), some (7 : Int)), ((16 : Nat), some (2 : Int)), ((16 : Nat), some (3 : Int))]) hC (fr_p (fr_p (fr_t (fr_t (fr_t (fr_t fr_0 hf4 (by decide)) hf8 (by decide)) hf23 (by decide)) hf38 (by decide)) (Or.inr (by decide))) (Or.inr (by decide))) (by decide +kernel)) (vw_fr (W := [((16 : Nat), some (2 : Int)), ((16 : Nat), some (3 : Int))]) hv38 (fr_p (fr_p fr_0 (Or.inr (by decide))) (Or.inr (by decide))) (by decide)) ((cs_f11 (b := 16)).trans (congrArg (fun V9 => nup V9 11 (tx_v f e 4 (tx_n f e (tx_n f e (tx_n f e b))))) ((cs_f10 (b := 16)).trans (congrArg (fun V9 => nup V9 10 (tx_v f e 4 (tx_n f e b))) ((cs_frd hf38 (by decide)).trans ((cs_frd hf23 (by decide)).trans ((cs_frd hf8 (by decide)).trans ((cs_frd hf4 (by decide)).trans (hT))))))))) rfl)
      · show gm_Wp X LX d _ _ 110 41 _ [gm_vi (-1)] n K _ _ Q
        have h38 : ¬ vn f e 0 9 (tx_n f e (tx_n f e (tx_n f e b))) := h38
        refine gm_sz (gm_p_stor (pc := 41) (i := .istore_n 2) (sr := 0) (j := 2) (by decide +kernel) rfl (show 3 ≤ _ from Nat.le_of_ble_eq_true rfl) rfl) ?_
        refine gm_sz (gm_p_load (pc := 42) (i := .iload_n 2) (sr := 0) (j := 2) (by decide +kernel) rfl rfl rfl) ?_
        refine gm_sz (gm_p_const (pc := 43) (i := .iconst (-1)) (v := gm_vi (-1)) (by decide +kernel) (by decide +kernel)) ?_
        refine fw_icfd (cc := .ne) (pc := 44) (off := 5) (by decide +kernel) (by decide) ⟨by decide, by decide⟩ ⟨by decide, by decide⟩ (by decide) ?_
        refine gm_sz (gm_p_const (pc := 47) (i := .iconst 0) (v := gm_vi 0) (by decide +kernel) (by decide +kernel)) ?_
        have ev : v_snow f e N b = (false, (tx_n f e (tx_n f e (tx_n f e b))), N) := by
          unfold v_snow
          rw [tif_t h8, tif_t h23, tif_f h38]
          first | done | rfl
        rw [ev] at q0
        exact gm_r_int (pc := 48) (by decide +kernel) (Or.inr ⟨(by decide +kernel), Or.inl rfl⟩) (q0 _ (fr_t (fr_t (fr_t (fr_t fr_0 hf4 (by decide)) hf8 (by decide)) hf23 (by decide)) hf38 (by decide)) (cst_fr (W := [((214 : Nat), some (3 : Int)), ((214 : Nat), some (4 : Int)), ((214 : Nat), some (5 : Int)), ((214 : Nat), some (6 : Int)), ((214 : Nat), some (7 : Int))]) hC (fr_t (fr_t (fr_t (fr_t fr_0 hf4 (by decide)) hf8 (by decide)) hf23 (by decide)) hf38 (by decide)) (by decide +kernel)) hv38 (fun h => by cases h))
    · show gm_Wp X LX d _ _ 110 26 _ [gm_vi 0] n K _ _ Q
      have h23 : ¬ tx_is f e (tx_n f e (tx_n f e b)) wv_fall := h23
      refine fw_iffd (cc := .ne) (pc := 26) (off := 5) (by decide +kernel) (by decide) ⟨by decide, by decide⟩ (by decide) ?_
      refine gm_sz (gm_p_const (pc := 29) (i := .iconst 0) (v := gm_vi 0) (by decide +kernel) (by decide +kernel)) ?_
      have ev : v_snow f e N b = (false, (tx_n f e (tx_n f e b)), N) := by
        unfold v_snow
        rw [tif_t h8, tif_f h23]
        first | done | rfl
      rw [ev] at q0
      exact gm_r_int (pc := 30) (by decide +kernel) (Or.inr ⟨(by decide +kernel), Or.inl rfl⟩) (q0 _ (fr_t (fr_t (fr_t fr_0 hf4 (by decide)) hf8 (by decide)) hf23 (by decide)) (cst_fr (W := [((214 : Nat), some (3 : Int)), ((214 : Nat), some (4 : Int)), ((214 : Nat), some (5 : Int)), ((214 : Nat), some (6 : Int)), ((214 : Nat), some (7 : Int))]) hC (fr_t (fr_t (fr_t fr_0 hf4 (by decide)) hf8 (by decide)) hf23 (by decide)) (by decide +kernel)) hv23 (fun h => by cases h))
  · show gm_Wp X LX d _ _ 110 11 _ [gm_vi (-1)] n K _ _ Q
    have h8 : ¬ vn f e 0 ((N 1) - 1) (tx_n f e b) := h8
    refine gm_sz (gm_p_stor (pc := 11) (i := .istore_n 1) (sr := 0) (j := 1) (by decide +kernel) rfl (show 2 ≤ _ from Nat.le_of_ble_eq_true rfl) rfl) ?_
    refine gm_sz (gm_p_load (pc := 12) (i := .iload_n 1) (sr := 0) (j := 1) (by decide +kernel) rfl rfl rfl) ?_
    refine gm_sz (gm_p_const (pc := 13) (i := .iconst (-1)) (v := gm_vi (-1)) (by decide +kernel) (by decide +kernel)) ?_
    refine fw_ictd (cc := .eq) (pc := 14) (off := 15) (by decide +kernel) (by decide) ⟨by decide, by decide⟩ ⟨by decide, by decide⟩ (by decide) ?_
    refine gm_sz (gm_p_const (pc := 29) (i := .iconst 0) (v := gm_vi 0) (by decide +kernel) (by decide +kernel)) ?_
    have ev : v_snow f e N b = (false, (tx_n f e b), N) := by
      unfold v_snow
      rw [tif_f h8]
      first | done | rfl
    rw [ev] at q0
    exact gm_r_int (pc := 30) (by decide +kernel) (Or.inr ⟨(by decide +kernel), Or.inl rfl⟩) (q0 _ (fr_t (fr_t fr_0 hf4 (by decide)) hf8 (by decide)) (cst_fr (W := [((214 : Nat), some (3 : Int)), ((214 : Nat), some (4 : Int)), ((214 : Nat), some (5 : Int)), ((214 : Nat), some (6 : Int)), ((214 : Nat), some (7 : Int))]) hC (fr_t (fr_t fr_0 hf4 (by decide)) hf8 (by decide)) (by decide +kernel)) hv8 (fun h => by cases h))
theorem vy_115 (hd : 8 ≤ d) (hE : E0 n K R) (hC : CST M) (hF : VF f e) (hV : VW f e b (-1) M) (hb : 0 ≤ b ∧ b ≤ e) (hT : cs M 16 = N) (hN : NR N) (q1 : ∀ M2, fr [((214 : Nat), some (3 : Int)), ((214 : Nat), some (4 : Int)), ((214 : Nat), some (5 : Int)), ((214 : Nat), some (6 : Int)), ((214 : Nat), some (7 : Int)), ((16 : Nat), none), ((17 : Nat), some (3 : Int)), ((18 : Nat), none), ((19 : Nat), some (3 : Int)), ((20 : Nat), none), ((21 : Nat), some (3 : Int)), ((22 : Nat), none), ((23 : Nat), some (3 : Int)), ((24 : Nat), none), ((25 : Nat), some (3 : Int)), ((26 : Nat), none)] M M2 → CST M2 → VW f e (v_flood f e N b).2.1 (-1) M2 → cs M2 16 = (v_flood f e N b).2.2 → (v_flood f e N b).1 = true → Q (.inl (some (gm_vi 1))) n K R M2) (q0 : ∀ M2, fr [((214 : Nat), some (3 : Int)), ((214 : Nat), some (4 : Int)), ((214 : Nat), some (5 : Int)), ((214 : Nat), some (6 : Int)), ((214 : Nat), some (7 : Int)), ((16 : Nat), none), ((17 : Nat), some (3 : Int)), ((18 : Nat), none), ((19 : Nat), some (3 : Int)), ((20 : Nat), none), ((21 : Nat), some (3 : Int)), ((22 : Nat), none), ((23 : Nat), some (3 : Int)), ((24 : Nat), none), ((25 : Nat), some (3 : Int)), ((26 : Nat), none)] M M2 → CST M2 → VW f e (v_flood f e N b).2.1 (v_flood f e N b).2.1 M2 → ¬ (v_flood f e N b).1 = true → Q (.inl (some (gm_vi 0))) n K R M2) : gm_Wp X LX d bc bs 115 0 (gm_ent 115 [gm_vr 213]) [] n K R M Q := by
  obtain ⟨⟨⟨a0, b0⟩, ⟨a1, b1⟩, ⟨a10, b10⟩, ⟨a11, b11⟩, ⟨a12, b12⟩, a9, b9⟩, ⟨⟨a2, b2⟩, ⟨a5, b5⟩, ⟨a3, b3⟩, ⟨a4, b4⟩, ⟨a6, b6⟩, ⟨a14, b14⟩, ⟨a7, b7⟩, a13, b13⟩, rF, rP, rL⟩ := id hN
  refine gm_sz (gm_p_load (pc := 0) (i := .aload_n 0) (sr := 2) (j := 0) (by decide +kernel) rfl rfl rfl) ?_
  refine gm_sz (fw_gr (pc := 1) (ix := 9) (ci := 7) (j := 2) (r := 16) (by decide +kernel) (e0k hE (k := 213) (c := 7) (by decide +kernel)) (by decide +kernel) (by decide +kernel) (e0r hE (k := 213) (j := 2) (r := 16) (by decide +kernel))) ?_
  refine gm_sz (fw_gr (pc := 4) (ix := 140) (ci := 1) (j := 10) (r := 19) (by decide +kernel) (e0k hE (k := 16) (c := 1) (by decide +kernel)) (by decide +kernel) (by decide +kernel) (e0r hE (k := 16) (j := 10) (r := 19) (by decide +kernel))) ?_
  refine gm_c_virt (k := 19) (ci := 2) (mj := 108) (ix := 105) (pc := 7) (as := []) (st := []) (d' := d - 1) (bc' := 0) (bs' := 0) (by decide +kernel) (by decide +kernel) (by decide +kernel) (by decide +kernel) (e0k hE (k := 19) (c := 2) (by decide +kernel)).1 (e0k hE (k := 19) (c := 2) (by decide +kernel)).2 (by decide) (by decide +kernel) (show 0 = gm_na 108 by decide +kernel) fw_c0 (show 1 ≤ gm_ml 108 by decide +kernel) (Nat.le_of_ble_eq_true rfl) (by omega) (Nat.zero_le _) (Nat.zero_le _) ?_
  refine rw_full (s := (N 5)) (m := 8) (e0k hE (k := 19) (c := 2) (by decide +kernel)) (dr_5 hT) (hC (19, 0, 8) (by decide)) ⟨⟨by omega, by omega⟩, ⟨by decide, by decide⟩⟩ (fun f7 => ?_) (fun f7 => ?_)
  · show gm_Wp X LX d _ _ 115 10 _ [gm_vi 1] n K _ _ Q
    have f7 : 8 ≤ (N 5) := f7
    refine fw_iffd (cc := .eq) (pc := 10) (off := 11) (by decide +kernel) (by decide) ⟨by decide, by decide⟩ (by decide) ?_
    refine gm_sz (gm_p_load (pc := 13) (i := .aload_n 0) (sr := 2) (j := 0) (by decide +kernel) rfl rfl rfl) ?_
    refine gm_sz (fw_gr (pc := 14) (ix := 15) (ci := 7) (j := 0) (r := 214) (by decide +kernel) (e0k hE (k := 213) (c := 7) (by decide +kernel)) (by decide +kernel) (by decide +kernel) (e0r hE (k := 213) (j := 0) (r := 214) (by decide +kernel))) ?_
    refine gm_c_virt (k := 214) (ci := 8) (mj := 93) (ix := 76) (pc := 17) (as := []) (st := []) (d' := d - 1) (bc' := 0) (bs' := 0) (by decide +kernel) (by decide +kernel) (by decide +kernel) (by decide +kernel) (e0k hE (k := 214) (c := 8) (by decide +kernel)).1 (e0k hE (k := 214) (c := 8) (by decide +kernel)).2 (by decide) (by decide +kernel) (show 0 = gm_na 93 by decide +kernel) fw_c0 (show 1 ≤ gm_ml 93 by decide +kernel) (Nat.le_of_ble_eq_true rfl) (by omega) (Nat.zero_le _) (Nat.zero_le _) ?_
    refine vw_93 hE hF hV hb (fun M17 hf17 hv17 => ?_)
    show gm_Wp X LX d _ _ 115 20 _ [gm_vi 0] n K _ _ Q
    have ev : v_flood f e N b = (false, b, N) := by
      unfold v_flood
      rw [tif_t (show N 5 = 8 by omega)]
      first | done | rfl
    rw [ev] at q0
    exact gm_r_int (pc := 20) (by decide +kernel) (Or.inr ⟨(by decide +kernel), Or.inl rfl⟩) (q0 _ (fr_t fr_0 hf17 (by decide)) (cst_fr (W := [((214 : Nat), some (3 : Int)), ((214 : Nat), some (4 : Int)), ((214 : Nat), some (5 : Int)), ((214 : Nat), some (6 : Int)), ((214 : Nat), some (7 : Int))]) hC (fr_t fr_0 hf17 (by decide)) (by decide +kernel)) hv17 (fun h => by cases h))
  · show gm_Wp X LX d _ _ 115 10 _ [gm_vi 0] n K _ _ Q
    have f7 : (N 5) < 8 := f7
    refine fw_iftd (cc := .eq) (pc := 10) (off := 11) (by decide +kernel) (by decide) ⟨by decide, by decide⟩ (by decide) ?_
    refine gm_sz (gm_p_load (pc := 21) (i := .aload_n 0) (sr := 2) (j := 0) (by decide +kernel) rfl rfl rfl) ?_
    refine gm_sz (fw_gr (pc := 22) (ix := 15) (ci := 7) (j := 0) (r := 214) (by decide +kernel) (e0k hE (k := 213) (c := 7) (by decide +kernel)) (by decide +kernel) (by decide +kernel) (e0r hE (k := 213) (j := 0) (r := 214) (by decide +kernel))) ?_
    refine gm_c_virt (k := 214) (ci := 8) (mj := 76) (ix := 84) (pc := 25) (as := []) (st := []) (d' := d - 1) (bc' := 0) (bs' := 0) (by decide +kernel) (by decide +kernel) (by decide +kernel) (by decide +kernel) (e0k hE (k := 214) (c := 8) (by decide +kernel)).1 (e0k hE (k := 214) (c := 8) (by decide +kernel)).2 (by decide) (by decide +kernel) (show 0 = gm_na 76 by decide +kernel) fw_c0 (show 1 ≤ gm_ml 76 by decide +kernel) (Nat.le_of_ble_eq_true rfl) (by omega) (Nat.zero_le _) (Nat.zero_le _) ?_
    refine vw_76 (by omega) hE hF hV hb (fun M25 hf25 hv25 => ?_)
    show gm_Wp X LX d _ _ 115 28 _ [] n K _ _ Q
    have hb25 := tx_nb (f := f) (e := e) (b := b) hb.2
    have hb25 : 0 ≤ tx_n f e b ∧ tx_n f e b ≤ e := ⟨by have := hb.1; omega, hb25.2.1⟩
    refine gm_sz (gm_p_load (pc := 28) (i := .aload_n 0) (sr := 2) (j := 0) (by decide +kernel) rfl rfl rfl) ?_
    refine gm_sz (fw_gr (pc := 29) (ix := 15) (ci := 7) (j := 0) (r := 214) (by decide +kernel) (e0k hE (k := 213) (c := 7) (by decide +kernel)) (by decide +kernel) (by decide +kernel) (e0r hE (k := 213) (j := 0) (r := 214) (by decide +kernel))) ?_
    refine gm_sz (gm_p_load (pc := 32) (i := .aload_n 0) (sr := 2) (j := 0) (by decide +kernel) rfl rfl rfl) ?_
    refine gm_sz (fw_gr (pc := 33) (ix := 9) (ci := 7) (j := 2) (r := 16) (by decide +kernel) (e0k hE (k := 213) (c := 7) (by decide +kernel)) (by decide +kernel) (by decide +kernel) (e0r hE (k := 213) (j := 2) (r := 16) (by decide +kernel))) ?_
    refine gm_sz (fw_gi (pc := 36) (ix := 143) (ci := 1) (j := 6) (x := (N 9)) (by decide +kernel) (e0k hE (k := 16) (c := 1) (by decide +kernel)) (by decide +kernel) (by decide +kernel) ((fr_c hf25 (by decide)).trans (dr_9 hT))) ?_
    refine gm_sz (gm_p_const (pc := 39) (i := .sipush 299) (v := gm_vi 299) (by decide +kernel) (by decide +kernel)) ?_
    refine gm_c_virt (k := 214) (ci := 8) (mj := 94) (ix := 88) (pc := 42) (as := [gm_vi (N 9), gm_vi 299]) (st := []) (d' := d - 1) (bc' := 0) (bs' := 0) (by decide +kernel) (by decide +kernel) (by decide +kernel) (by decide +kernel) (e0k hE (k := 214) (c := 8) (by decide +kernel)).1 (e0k hE (k := 214) (c := 8) (by decide +kernel)).2 (by decide) (by decide +kernel) (show 2 = gm_na 94 by decide +kernel) (fw_c2 fw_si fw_si) (show 3 ≤ gm_ml 94 by decide +kernel) (Nat.le_of_ble_eq_true rfl) (by omega) (Nat.zero_le _) (Nat.zero_le _) ?_
    refine vw_94 (by omega) hE hF hv25 ⟨by omega, by omega⟩ ⟨by decide, by decide⟩ hb25 (fun h42 M42 hf42 hv42 => ?_) (fun h42 M42 hf42 hv42 => ?_)
    · show gm_Wp X LX d _ _ 115 45 _ [gm_vi (tx_v f e 4 (tx_n f e b))] n K _ _ Q
      have h42 : vn f e (N 9) 299 (tx_n f e b) := h42
      have hr42 : (N 9) ≤ tx_v f e 4 (tx_n f e b) ∧ tx_v f e 4 (tx_n f e b) ≤ 299 := h42.2
      have hb42 := tx_nb (f := f) (e := e) (b := (tx_n f e b)) hb25.2
      have hb42 : 0 ≤ tx_n f e (tx_n f e b) ∧ tx_n f e (tx_n f e b) ≤ e := ⟨by have := hb25.1; omega, hb42.2.1⟩
      refine gm_sz (gm_p_stor (pc := 45) (i := .istore_n 1) (sr := 0) (j := 1) (by decide +kernel) rfl (show 2 ≤ _ from Nat.le_of_ble_eq_true rfl) rfl) ?_
      refine gm_sz (gm_p_load (pc := 46) (i := .iload_n 1) (sr := 0) (j := 1) (by decide +kernel) rfl rfl rfl) ?_
      refine gm_sz (gm_p_const (pc := 47) (i := .iconst (-1)) (v := gm_vi (-1)) (by decide +kernel) (by decide +kernel)) ?_
      refine fw_ict (cc := .ne) (pc := 48) (off := 7) (by decide +kernel) (by decide) ⟨by omega, by omega⟩ ⟨by decide, by decide⟩ (show ¬ (tx_v f e 4 (tx_n f e b)) = (-1) by omega) ?_
      refine gm_sz (gm_p_load (pc := 55) (i := .aload_n 0) (sr := 2) (j := 0) (by decide +kernel) rfl rfl rfl) ?_
      refine gm_c_virt (k := 213) (ci := 7) (mj := 111) (ix := 128) (pc := 56) (as := []) (st := []) (d' := d - 1) (bc' := 0) (bs' := 0) (by decide +kernel) (by decide +kernel) (by decide +kernel) (by decide +kernel) (e0k hE (k := 213) (c := 7) (by decide +kernel)).1 (e0k hE (k := 213) (c := 7) (by decide +kernel)).2 (by decide) (by decide +kernel) (show 0 = gm_na 111 by decide +kernel) fw_c0 (show 1 ≤ gm_ml 111 by decide +kernel) (Nat.le_of_ble_eq_true rfl) (by omega) (Nat.zero_le _) (Nat.zero_le _) ?_
      refine vy_111 (by omega) hE (cst_fr (W := [((214 : Nat), some (3 : Int)), ((214 : Nat), some (4 : Int)), ((214 : Nat), some (5 : Int)), ((214 : Nat), some (6 : Int)), ((214 : Nat), some (7 : Int))]) hC (fr_t (fr_t fr_0 hf25 (by decide)) hf42 (by decide)) (by decide +kernel)) hF hv42 hb42 ((cs_frd hf42 (by decide)).trans ((cs_frd hf25 (by decide)).trans (hT))) hN (fun h56 M56 hf56 hv56 => ?_) (fun h56 M56 hf56 hv56 => ?_)
      · show gm_Wp X LX d _ _ 115 59 _ [gm_vi (tx_v f e 4 (tx_n f e (tx_n f e b)))] n K _ _ Q
        have h56 : vn f e 0 ((N 1) - 1) (tx_n f e (tx_n f e b)) := h56
        have hr56 : 0 ≤ tx_v f e 4 (tx_n f e (tx_n f e b)) ∧ tx_v f e 4 (tx_n f e (tx_n f e b)) ≤ (N 1) - 1 := h56.2
        have hb56 := tx_nb (f := f) (e := e) (b := (tx_n f e (tx_n f e b))) hb42.2
        have hb56 : 0 ≤ tx_n f e (tx_n f e (tx_n f e b)) ∧ tx_n f e (tx_n f e (tx_n f e b)) ≤ e := ⟨by have := hb42.1; omega, hb56.2.1⟩
        refine gm_sz (gm_p_stor (pc := 59) (i := .istore_n 2) (sr := 0) (j := 2) (by decide +kernel) rfl (show 3 ≤ _ from Nat.le_of_ble_eq_true rfl) rfl) ?_
        refine gm_sz (gm_p_load (pc := 60) (i := .iload_n 2) (sr := 0) (j := 2) (by decide +kernel) rfl rfl rfl) ?_
        refine gm_sz (gm_p_const (pc := 61) (i := .iconst (-1)) (v := gm_vi (-1)) (by decide +kernel) (by decide +kernel)) ?_
        refine fw_ict (cc := .ne) (pc := 62) (off := 7) (by decide +kernel) (by decide) ⟨by omega, by omega⟩ ⟨by decide, by decide⟩ (show ¬ (tx_v f e 4 (tx_n f e (tx_n f e b))) = (-1) by omega) ?_
        refine gm_sz (gm_p_load (pc := 69) (i := .aload_n 0) (sr := 2) (j := 0) (by decide +kernel) rfl rfl rfl) ?_
        refine gm_sz (fw_gr (pc := 70) (ix := 15) (ci := 7) (j := 0) (r := 214) (by decide +kernel) (e0k hE (k := 213) (c := 7) (by decide +kernel)) (by decide +kernel) (by decide +kernel) (e0r hE (k := 213) (j := 0) (r := 214) (by decide +kernel))) ?_
        refine gm_sz (gm_p_const (pc := 73) (i := .iconst 1) (v := gm_vi 1) (by decide +kernel) (by decide +kernel)) ?_
        refine gm_sz (gm_p_const (pc := 74) (i := .bipush 20) (v := gm_vi 20) (by decide +kernel) (by decide +kernel)) ?_
        refine gm_c_virt (k := 214) (ci := 8) (mj := 94) (ix := 88) (pc := 76) (as := [gm_vi 1, gm_vi 20]) (st := []) (d' := d - 1) (bc' := 0) (bs' := 0) (by decide +kernel) (by decide +kernel) (by decide +kernel) (by decide +kernel) (e0k hE (k := 214) (c := 8) (by decide +kernel)).1 (e0k hE (k := 214) (c := 8) (by decide +kernel)).2 (by decide) (by decide +kernel) (show 2 = gm_na 94 by decide +kernel) (fw_c2 fw_si fw_si) (show 3 ≤ gm_ml 94 by decide +kernel) (Nat.le_of_ble_eq_true rfl) (by omega) (Nat.zero_le _) (Nat.zero_le _) ?_
        refine vw_94 (by omega) hE hF hv56 ⟨by decide, by decide⟩ ⟨by decide, by decide⟩ hb56 (fun h76 M76 hf76 hv76 => ?_) (fun h76 M76 hf76 hv76 => ?_)
        · show gm_Wp X LX d _ _ 115 79 _ [gm_vi (tx_v f e 4 (tx_n f e (tx_n f e (tx_n f e b))))] n K _ _ Q
          have h76 : vn f e 1 20 (tx_n f e (tx_n f e (tx_n f e b))) := h76
          have hr76 : 1 ≤ tx_v f e 4 (tx_n f e (tx_n f e (tx_n f e b))) ∧ tx_v f e 4 (tx_n f e (tx_n f e (tx_n f e b))) ≤ 20 := h76.2
          have hb76 := tx_nb (f := f) (e := e) (b := (tx_n f e (tx_n f e (tx_n f e b)))) hb56.2
          have hb76 : 0 ≤ tx_n f e (tx_n f e (tx_n f e (tx_n f e b))) ∧ tx_n f e (tx_n f e (tx_n f e (tx_n f e b))) ≤ e := ⟨by have := hb56.1; omega, hb76.2.1⟩
          refine gm_sz (gm_p_stor (pc := 79) (i := .istore_n 3) (sr := 0) (j := 3) (by decide +kernel) rfl (show 4 ≤ _ from Nat.le_of_ble_eq_true rfl) rfl) ?_
          refine gm_sz (gm_p_load (pc := 80) (i := .iload_n 3) (sr := 0) (j := 3) (by decide +kernel) rfl rfl rfl) ?_
          refine gm_sz (gm_p_const (pc := 81) (i := .iconst (-1)) (v := gm_vi (-1)) (by decide +kernel) (by decide +kernel)) ?_
          refine fw_ict (cc := .ne) (pc := 82) (off := 5) (by decide +kernel) (by decide) ⟨by omega, by omega⟩ ⟨by decide, by decide⟩ (show ¬ (tx_v f e 4 (tx_n f e (tx_n f e (tx_n f e b)))) = (-1) by omega) ?_
          refine gm_sz (gm_p_load (pc := 87) (i := .aload_n 0) (sr := 2) (j := 0) (by decide +kernel) rfl rfl rfl) ?_
          refine gm_sz (fw_gr (pc := 88) (ix := 9) (ci := 7) (j := 2) (r := 16) (by decide +kernel) (e0k hE (k := 213) (c := 7) (by decide +kernel)) (by decide +kernel) (by decide +kernel) (e0r hE (k := 213) (j := 2) (r := 16) (by decide +kernel))) ?_
          refine gm_sz (fw_gr (pc := 91) (ix := 140) (ci := 1) (j := 10) (r := 19) (by decide +kernel) (e0k hE (k := 16) (c := 1) (by decide +kernel)) (by decide +kernel) (by decide +kernel) (e0r hE (k := 16) (j := 10) (r := 19) (by decide +kernel))) ?_
          refine gm_c_virt (k := 19) (ci := 2) (mj := 102) (ix := 117) (pc := 94) (as := []) (st := []) (d' := d - 1) (bc' := 0) (bs' := 0) (by decide +kernel) (by decide +kernel) (by decide +kernel) (by decide +kernel) (e0k hE (k := 19) (c := 2) (by decide +kernel)).1 (e0k hE (k := 19) (c := 2) (by decide +kernel)).2 (by decide) (by decide +kernel) (show 0 = gm_na 102 by decide +kernel) fw_c0 (show 1 ≤ gm_ml 102 by decide +kernel) (Nat.le_of_ble_eq_true rfl) (by omega) (Nat.zero_le _) (Nat.zero_le _) ?_
          refine rw_add (s := (N 5)) (m := 8) (e0k hE (k := 19) (c := 2) (by decide +kernel)) ((fr_c hf76 (by decide)).trans ((fr_c hf56 (by decide)).trans ((fr_c hf42 (by decide)).trans ((fr_c hf25 (by decide)).trans (dr_5 hT))))) ((fr_c hf76 (by decide)).trans ((fr_c hf56 (by decide)).trans ((fr_c hf42 (by decide)).trans ((fr_c hf25 (by decide)).trans (hC (19, 0, 8) (by decide)))))) ⟨by omega, by omega⟩ (by omega) ?_
          show gm_Wp X LX d _ _ 115 97 _ [gm_vi (N 5)] n K _ _ Q
          refine gm_sz (gm_p_stor (pc := 97) (i := .istore 4) (sr := 0) (j := 4) (by decide +kernel) rfl (show 5 ≤ _ from Nat.le_of_ble_eq_true rfl) rfl) ?_
          refine gm_sz (gm_p_load (pc := 99) (i := .aload_n 0) (sr := 2) (j := 0) (by decide +kernel) rfl rfl rfl) ?_
          refine gm_sz (fw_gr (pc := 100) (ix := 9) (ci := 7) (j := 2) (r := 16) (by decide +kernel) (e0k hE (k := 213) (c := 7) (by decide +kernel)) (by decide +kernel) (by decide +kernel) (e0r hE (k := 213) (j := 2) (r := 16) (by decide +kernel))) ?_
          refine gm_sz (fw_gr (pc := 103) (ix := 140) (ci := 1) (j := 10) (r := 19) (by decide +kernel) (e0k hE (k := 16) (c := 1) (by decide +kernel)) (by decide +kernel) (by decide +kernel) (e0r hE (k := 16) (j := 10) (r := 19) (by decide +kernel))) ?_
          refine gm_sz (gm_p_load (pc := 106) (i := .iload 4) (sr := 0) (j := 4) (by decide +kernel) rfl rfl rfl) ?_
          refine gm_sz (gm_p_const (pc := 108) (i := .iconst 0) (v := gm_vi 0) (by decide +kernel) (by decide +kernel)) ?_
          refine gm_sz (gm_p_load (pc := 109) (i := .iload_n 1) (sr := 0) (j := 1) (by decide +kernel) rfl rfl rfl) ?_
          refine gm_c_virt (k := 19) (ci := 2) (mj := 45) (ix := 120) (pc := 110) (as := [gm_vi (N 5), gm_vi 0, gm_vi (tx_v f e 4 (tx_n f e b))]) (st := []) (d' := d - 1) (bc' := 0) (bs' := 0) (by decide +kernel) (by decide +kernel) (by decide +kernel) (by decide +kernel) (e0k hE (k := 19) (c := 2) (by decide +kernel)).1 (e0k hE (k := 19) (c := 2) (by decide +kernel)).2 (by decide) (by decide +kernel) (show 3 = gm_na 45 by decide +kernel) (fw_c3 fw_si fw_si fw_si) (show 4 ≤ gm_ml 45 by decide +kernel) (Nat.le_of_ble_eq_true rfl) (by omega) (Nat.zero_le _) (Nat.zero_le _) ?_
          refine rw_put (s := (N 5) + 1) (w := 3) (e0k hE (k := 19) (c := 2) (by decide +kernel)) (e0a hE (k := 20) (q := ((0 : Nat), (24 : Nat))) (by decide +kernel)) (e0r hE (k := 19) (j := 2) (r := 20) (by decide +kernel)) (by decide) uM_at ((uM_ne (by omega)).trans ((fr_c hf76 (by decide)).trans ((fr_c hf56 (by decide)).trans ((fr_c hf42 (by decide)).trans ((fr_c hf25 (by decide)).trans (hC (19, 1, 3) (by decide))))))) ⟨by omega, by omega⟩ ⟨by omega, by omega⟩ ⟨by omega, by omega⟩ ⟨by omega, by omega⟩ ?_
          show gm_Wp X LX d _ _ 115 113 _ [] n K _ _ Q
          refine gm_sz (gm_p_load (pc := 113) (i := .aload_n 0) (sr := 2) (j := 0) (by decide +kernel) rfl rfl rfl) ?_
          refine gm_sz (fw_gr (pc := 114) (ix := 9) (ci := 7) (j := 2) (r := 16) (by decide +kernel) (e0k hE (k := 213) (c := 7) (by decide +kernel)) (by decide +kernel) (by decide +kernel) (e0r hE (k := 213) (j := 2) (r := 16) (by decide +kernel))) ?_
          refine gm_sz (fw_gr (pc := 117) (ix := 140) (ci := 1) (j := 10) (r := 19) (by decide +kernel) (e0k hE (k := 16) (c := 1) (by decide +kernel)) (by decide +kernel) (by decide +kernel) (e0r hE (k := 16) (j := 10) (r := 19) (by decide +kernel))) ?_
          refine gm_sz (gm_p_load (pc := 120) (i := .iload 4) (sr := 0) (j := 4) (by decide +kernel) rfl rfl rfl) ?_
          refine gm_sz (gm_p_const (pc := 122) (i := .iconst 1) (v := gm_vi 1) (by decide +kernel) (by decide +kernel)) ?_
          refine gm_sz (gm_p_load (pc := 123) (i := .iload_n 2) (sr := 0) (j := 2) (by decide +kernel) rfl rfl rfl) ?_
          refine gm_c_virt (k := 19) (ci := 2) (mj := 45) (ix := 120) (pc := 124) (as := [gm_vi (N 5), gm_vi 1, gm_vi (tx_v f e 4 (tx_n f e (tx_n f e b)))]) (st := []) (d' := d - 1) (bc' := 0) (bs' := 0) (by decide +kernel) (by decide +kernel) (by decide +kernel) (by decide +kernel) (e0k hE (k := 19) (c := 2) (by decide +kernel)).1 (e0k hE (k := 19) (c := 2) (by decide +kernel)).2 (by decide) (by decide +kernel) (show 3 = gm_na 45 by decide +kernel) (fw_c3 fw_si fw_si fw_si) (show 4 ≤ gm_ml 45 by decide +kernel) (Nat.le_of_ble_eq_true rfl) (by omega) (Nat.zero_le _) (Nat.zero_le _) ?_
          refine rw_put (s := (N 5) + 1) (w := 3) (e0k hE (k := 19) (c := 2) (by decide +kernel)) (e0a hE (k := 20) (q := ((0 : Nat), (24 : Nat))) (by decide +kernel)) (e0r hE (k := 19) (j := 2) (r := 20) (by decide +kernel)) (by decide) ((uM_ne (by omega)).trans uM_at) ((uM_ne (by omega)).trans ((uM_ne (by omega)).trans ((fr_c hf76 (by decide)).trans ((fr_c hf56 (by decide)).trans ((fr_c hf42 (by decide)).trans ((fr_c hf25 (by decide)).trans (hC (19, 1, 3) (by decide)))))))) ⟨by omega, by omega⟩ ⟨by omega, by omega⟩ ⟨by omega, by omega⟩ ⟨by omega, by omega⟩ ?_
          show gm_Wp X LX d _ _ 115 127 _ [] n K _ _ Q
          refine gm_sz (gm_p_load (pc := 127) (i := .aload_n 0) (sr := 2) (j := 0) (by decide +kernel) rfl rfl rfl) ?_
          refine gm_sz (fw_gr (pc := 128) (ix := 9) (ci := 7) (j := 2) (r := 16) (by decide +kernel) (e0k hE (k := 213) (c := 7) (by decide +kernel)) (by decide +kernel) (by decide +kernel) (e0r hE (k := 213) (j := 2) (r := 16) (by decide +kernel))) ?_
          refine gm_sz (fw_gr (pc := 131) (ix := 140) (ci := 1) (j := 10) (r := 19) (by decide +kernel) (e0k hE (k := 16) (c := 1) (by decide +kernel)) (by decide +kernel) (by decide +kernel) (e0r hE (k := 16) (j := 10) (r := 19) (by decide +kernel))) ?_
          refine gm_sz (gm_p_load (pc := 134) (i := .iload 4) (sr := 0) (j := 4) (by decide +kernel) rfl rfl rfl) ?_
          refine gm_sz (gm_p_const (pc := 136) (i := .iconst 2) (v := gm_vi 2) (by decide +kernel) (by decide +kernel)) ?_
          refine gm_sz (gm_p_load (pc := 137) (i := .iload_n 3) (sr := 0) (j := 3) (by decide +kernel) rfl rfl rfl) ?_
          refine gm_c_virt (k := 19) (ci := 2) (mj := 45) (ix := 120) (pc := 138) (as := [gm_vi (N 5), gm_vi 2, gm_vi (tx_v f e 4 (tx_n f e (tx_n f e (tx_n f e b))))]) (st := []) (d' := d - 1) (bc' := 0) (bs' := 0) (by decide +kernel) (by decide +kernel) (by decide +kernel) (by decide +kernel) (e0k hE (k := 19) (c := 2) (by decide +kernel)).1 (e0k hE (k := 19) (c := 2) (by decide +kernel)).2 (by decide) (by decide +kernel) (show 3 = gm_na 45 by decide +kernel) (fw_c3 fw_si fw_si fw_si) (show 4 ≤ gm_ml 45 by decide +kernel) (Nat.le_of_ble_eq_true rfl) (by omega) (Nat.zero_le _) (Nat.zero_le _) ?_
          refine rw_put (s := (N 5) + 1) (w := 3) (e0k hE (k := 19) (c := 2) (by decide +kernel)) (e0a hE (k := 20) (q := ((0 : Nat), (24 : Nat))) (by decide +kernel)) (e0r hE (k := 19) (j := 2) (r := 20) (by decide +kernel)) (by decide) ((uM_ne (by omega)).trans ((uM_ne (by omega)).trans uM_at)) ((uM_ne (by omega)).trans ((uM_ne (by omega)).trans ((uM_ne (by omega)).trans ((fr_c hf76 (by decide)).trans ((fr_c hf56 (by decide)).trans ((fr_c hf42 (by decide)).trans ((fr_c hf25 (by decide)).trans (hC (19, 1, 3) (by decide))))))))) ⟨by omega, by omega⟩ ⟨by omega, by omega⟩ ⟨by omega, by omega⟩ ⟨by omega, by omega⟩ ?_
          show gm_Wp X LX d _ _ 115 141 _ [] n K _ _ Q
          refine gm_sz (gm_p_const (pc := 141) (i := .iconst 1) (v := gm_vi 1) (by decide +kernel) (by decide +kernel)) ?_
          have ev : v_flood f e N b = (true, (tx_n f e (tx_n f e (tx_n f e (tx_n f e b)))), (nup (nup (nup (nup N 5 ((N 5) + 1)) (71 + ((N 5) * 3 + 0)) (tx_v f e 4 (tx_n f e b))) (71 + ((N 5) * 3 + 1)) (tx_v f e 4 (tx_n f e (tx_n f e b)))) (71 + ((N 5) * 3 + 2)) (tx_v f e 4 (tx_n f e (tx_n f e (tx_n f e b)))))) := by
            unfold v_flood
            rw [tif_f (show ¬ N 5 = 8 by omega), tif_t h42, tif_t h56, tif_t h76]
            first | done | rfl
          rw [ev] at q1
          exact gm_r_int (pc := 142) (by decide +kernel) (Or.inr ⟨(by decide +kernel), Or.inr rfl⟩) (q1 _ (fr_p (fr_p (fr_p (fr_p (fr_t (fr_t (fr_t (fr_t fr_0 hf25 (by decide)) hf42 (by decide)) hf56 (by decide)) hf76 (by decide)) (Or.inr (by decide))) (Or.inl (by decide))) (Or.inl (by decide))) (Or.inl (by decide))) (cst_fr (W := [((214 : Nat), some (3 : Int)), ((214 : Nat), some (4 : Int)), ((214 : Nat), some (5 : Int)), ((214 : Nat), some (6 : Int)), ((214 : Nat), some (7 : Int)), ((19 : Nat), some (3 : Int)), ((20 : Nat), none)]) hC (fr_p (fr_p (fr_p (fr_p (fr_t (fr_t (fr_t (fr_t fr_0 hf25 (by decide)) hf42 (by decide)) hf56 (by decide)) hf76 (by decide)) (Or.inr (by decide))) (Or.inl (by decide))) (Or.inl (by decide))) (Or.inl (by decide))) (by decide +kernel)) (vw_fr (W := [((19 : Nat), some (3 : Int)), ((20 : Nat), none)]) hv76 (fr_p (fr_p (fr_p (fr_p fr_0 (Or.inr (by decide))) (Or.inl (by decide))) (Or.inl (by decide))) (Or.inl (by decide))) (by decide)) ((cs_pF (b := 16) (by omega) (by omega)).trans (congrArg (fun V9 => nup V9 (71 + ((N 5) * 3 + 2)) (tx_v f e 4 (tx_n f e (tx_n f e (tx_n f e b))))) ((cs_pF (b := 16) (by omega) (by omega)).trans (congrArg (fun V9 => nup V9 (71 + ((N 5) * 3 + 1)) (tx_v f e 4 (tx_n f e (tx_n f e b)))) ((cs_pF (b := 16) (by omega) (by omega)).trans (congrArg (fun V9 => nup V9 (71 + ((N 5) * 3 + 0)) (tx_v f e 4 (tx_n f e b))) ((cs_f5 (b := 16)).trans (congrArg (fun V9 => nup V9 5 ((N 5) + 1)) ((cs_frd hf76 (by decide)).trans ((cs_frd hf56 (by decide)).trans ((cs_frd hf42 (by decide)).trans ((cs_frd hf25 (by decide)).trans (hT))))))))))))) rfl)
        · show gm_Wp X LX d _ _ 115 79 _ [gm_vi (-1)] n K _ _ Q
          have h76 : ¬ vn f e 1 20 (tx_n f e (tx_n f e (tx_n f e b))) := h76
          refine gm_sz (gm_p_stor (pc := 79) (i := .istore_n 3) (sr := 0) (j := 3) (by decide +kernel) rfl (show 4 ≤ _ from Nat.le_of_ble_eq_true rfl) rfl) ?_
          refine gm_sz (gm_p_load (pc := 80) (i := .iload_n 3) (sr := 0) (j := 3) (by decide +kernel) rfl rfl rfl) ?_
          refine gm_sz (gm_p_const (pc := 81) (i := .iconst (-1)) (v := gm_vi (-1)) (by decide +kernel) (by decide +kernel)) ?_
          refine fw_icfd (cc := .ne) (pc := 82) (off := 5) (by decide +kernel) (by decide) ⟨by decide, by decide⟩ ⟨by decide, by decide⟩ (by decide) ?_
          refine gm_sz (gm_p_const (pc := 85) (i := .iconst 0) (v := gm_vi 0) (by decide +kernel) (by decide +kernel)) ?_
          have ev : v_flood f e N b = (false, (tx_n f e (tx_n f e (tx_n f e b))), N) := by
            unfold v_flood
            rw [tif_f (show ¬ N 5 = 8 by omega), tif_t h42, tif_t h56, tif_f h76]
            first | done | rfl
          rw [ev] at q0
          exact gm_r_int (pc := 86) (by decide +kernel) (Or.inr ⟨(by decide +kernel), Or.inl rfl⟩) (q0 _ (fr_t (fr_t (fr_t (fr_t fr_0 hf25 (by decide)) hf42 (by decide)) hf56 (by decide)) hf76 (by decide)) (cst_fr (W := [((214 : Nat), some (3 : Int)), ((214 : Nat), some (4 : Int)), ((214 : Nat), some (5 : Int)), ((214 : Nat), some (6 : Int)), ((214 : Nat), some (7 : Int))]) hC (fr_t (fr_t (fr_t (fr_t fr_0 hf25 (by decide)) hf42 (by decide)) hf56 (by decide)) hf76 (by decide)) (by decide +kernel)) hv76 (fun h => by cases h))
      · show gm_Wp X LX d _ _ 115 59 _ [gm_vi (-1)] n K _ _ Q
        have h56 : ¬ vn f e 0 ((N 1) - 1) (tx_n f e (tx_n f e b)) := h56
        refine gm_sz (gm_p_stor (pc := 59) (i := .istore_n 2) (sr := 0) (j := 2) (by decide +kernel) rfl (show 3 ≤ _ from Nat.le_of_ble_eq_true rfl) rfl) ?_
        refine gm_sz (gm_p_load (pc := 60) (i := .iload_n 2) (sr := 0) (j := 2) (by decide +kernel) rfl rfl rfl) ?_
        refine gm_sz (gm_p_const (pc := 61) (i := .iconst (-1)) (v := gm_vi (-1)) (by decide +kernel) (by decide +kernel)) ?_
        refine fw_icfd (cc := .ne) (pc := 62) (off := 7) (by decide +kernel) (by decide) ⟨by decide, by decide⟩ ⟨by decide, by decide⟩ (by decide) ?_
        refine gm_sz (gm_p_const (pc := 65) (i := .iconst (-1)) (v := gm_vi (-1)) (by decide +kernel) (by decide +kernel)) ?_
        refine gm_sz (gm_p_goto (pc := 66) (off := 13) (by decide +kernel) (by decide)) ?_
        refine gm_sz (gm_p_stor (pc := 79) (i := .istore_n 3) (sr := 0) (j := 3) (by decide +kernel) rfl (show 4 ≤ _ from Nat.le_of_ble_eq_true rfl) rfl) ?_
        refine gm_sz (gm_p_load (pc := 80) (i := .iload_n 3) (sr := 0) (j := 3) (by decide +kernel) rfl rfl rfl) ?_
        refine gm_sz (gm_p_const (pc := 81) (i := .iconst (-1)) (v := gm_vi (-1)) (by decide +kernel) (by decide +kernel)) ?_
        refine fw_icfd (cc := .ne) (pc := 82) (off := 5) (by decide +kernel) (by decide) ⟨by decide, by decide⟩ ⟨by decide, by decide⟩ (by decide) ?_
        refine gm_sz (gm_p_const (pc := 85) (i := .iconst 0) (v := gm_vi 0) (by decide +kernel) (by decide +kernel)) ?_
        have ev : v_flood f e N b = (false, (tx_n f e (tx_n f e b)), N) := by
          unfold v_flood
          rw [tif_f (show ¬ N 5 = 8 by omega), tif_t h42, tif_f h56]
          first | done | rfl
        rw [ev] at q0
        exact gm_r_int (pc := 86) (by decide +kernel) (Or.inr ⟨(by decide +kernel), Or.inl rfl⟩) (q0 _ (fr_t (fr_t (fr_t fr_0 hf25 (by decide)) hf42 (by decide)) hf56 (by decide)) (cst_fr (W := [((214 : Nat), some (3 : Int)), ((214 : Nat), some (4 : Int)), ((214 : Nat), some (5 : Int)), ((214 : Nat), some (6 : Int)), ((214 : Nat), some (7 : Int))]) hC (fr_t (fr_t (fr_t fr_0 hf25 (by decide)) hf42 (by decide)) hf56 (by decide)) (by decide +kernel)) hv56 (fun h => by cases h))
    · show gm_Wp X LX d _ _ 115 45 _ [gm_vi (-1)] n K _ _ Q
      have h42 : ¬ vn f e (N 9) 299 (tx_n f e b) := h42
      refine gm_sz (gm_p_stor (pc := 45) (i := .istore_n 1) (sr := 0) (j := 1) (by decide +kernel) rfl (show 2 ≤ _ from Nat.le_of_ble_eq_true rfl) rfl) ?_
      refine gm_sz (gm_p_load (pc := 46) (i := .iload_n 1) (sr := 0) (j := 1) (by decide +kernel) rfl rfl rfl) ?_
      refine gm_sz (gm_p_const (pc := 47) (i := .iconst (-1)) (v := gm_vi (-1)) (by decide +kernel) (by decide +kernel)) ?_
      refine fw_icfd (cc := .ne) (pc := 48) (off := 7) (by decide +kernel) (by decide) ⟨by decide, by decide⟩ ⟨by decide, by decide⟩ (by decide) ?_
      refine gm_sz (gm_p_const (pc := 51) (i := .iconst (-1)) (v := gm_vi (-1)) (by decide +kernel) (by decide +kernel)) ?_
      refine gm_sz (gm_p_goto (pc := 52) (off := 7) (by decide +kernel) (by decide)) ?_
      refine gm_sz (gm_p_stor (pc := 59) (i := .istore_n 2) (sr := 0) (j := 2) (by decide +kernel) rfl (show 3 ≤ _ from Nat.le_of_ble_eq_true rfl) rfl) ?_
      refine gm_sz (gm_p_load (pc := 60) (i := .iload_n 2) (sr := 0) (j := 2) (by decide +kernel) rfl rfl rfl) ?_
      refine gm_sz (gm_p_const (pc := 61) (i := .iconst (-1)) (v := gm_vi (-1)) (by decide +kernel) (by decide +kernel)) ?_
      refine fw_icfd (cc := .ne) (pc := 62) (off := 7) (by decide +kernel) (by decide) ⟨by decide, by decide⟩ ⟨by decide, by decide⟩ (by decide) ?_
      refine gm_sz (gm_p_const (pc := 65) (i := .iconst (-1)) (v := gm_vi (-1)) (by decide +kernel) (by decide +kernel)) ?_
      refine gm_sz (gm_p_goto (pc := 66) (off := 13) (by decide +kernel) (by decide)) ?_
      refine gm_sz (gm_p_stor (pc := 79) (i := .istore_n 3) (sr := 0) (j := 3) (by decide +kernel) rfl (show 4 ≤ _ from Nat.le_of_ble_eq_true rfl) rfl) ?_
      refine gm_sz (gm_p_load (pc := 80) (i := .iload_n 3) (sr := 0) (j := 3) (by decide +kernel) rfl rfl rfl) ?_
      refine gm_sz (gm_p_const (pc := 81) (i := .iconst (-1)) (v := gm_vi (-1)) (by decide +kernel) (by decide +kernel)) ?_
      refine fw_icfd (cc := .ne) (pc := 82) (off := 5) (by decide +kernel) (by decide) ⟨by decide, by decide⟩ ⟨by decide, by decide⟩ (by decide) ?_
      refine gm_sz (gm_p_const (pc := 85) (i := .iconst 0) (v := gm_vi 0) (by decide +kernel) (by decide +kernel)) ?_
      have ev : v_flood f e N b = (false, (tx_n f e b), N) := by
        unfold v_flood
        rw [tif_f (show ¬ N 5 = 8 by omega), tif_f h42]
        first | done | rfl
      rw [ev] at q0
      exact gm_r_int (pc := 86) (by decide +kernel) (Or.inr ⟨(by decide +kernel), Or.inl rfl⟩) (q0 _ (fr_t (fr_t fr_0 hf25 (by decide)) hf42 (by decide)) (cst_fr (W := [((214 : Nat), some (3 : Int)), ((214 : Nat), some (4 : Int)), ((214 : Nat), some (5 : Int)), ((214 : Nat), some (6 : Int)), ((214 : Nat), some (7 : Int))]) hC (fr_t (fr_t fr_0 hf25 (by decide)) hf42 (by decide)) (by decide +kernel)) hv42 (fun h => by cases h))
theorem vy_116 (hd : 8 ≤ d) (hE : E0 n K R) (hC : CST M) (hF : VF f e) (hV : VW f e b (-1) M) (hb : 0 ≤ b ∧ b ≤ e) (hT : cs M 16 = N) (hN : NR N) (q1 : ∀ M2, fr [((214 : Nat), some (3 : Int)), ((214 : Nat), some (4 : Int)), ((214 : Nat), some (5 : Int)), ((214 : Nat), some (6 : Int)), ((214 : Nat), some (7 : Int)), ((16 : Nat), none), ((17 : Nat), some (3 : Int)), ((18 : Nat), none), ((19 : Nat), some (3 : Int)), ((20 : Nat), none), ((21 : Nat), some (3 : Int)), ((22 : Nat), none), ((23 : Nat), some (3 : Int)), ((24 : Nat), none), ((25 : Nat), some (3 : Int)), ((26 : Nat), none)] M M2 → CST M2 → VW f e (v_person f e N b).2.1 (-1) M2 → cs M2 16 = (v_person f e N b).2.2 → (v_person f e N b).1 = true → Q (.inl (some (gm_vi 1))) n K R M2) (q0 : ∀ M2, fr [((214 : Nat), some (3 : Int)), ((214 : Nat), some (4 : Int)), ((214 : Nat), some (5 : Int)), ((214 : Nat), some (6 : Int)), ((214 : Nat), some (7 : Int)), ((16 : Nat), none), ((17 : Nat), some (3 : Int)), ((18 : Nat), none), ((19 : Nat), some (3 : Int)), ((20 : Nat), none), ((21 : Nat), some (3 : Int)), ((22 : Nat), none), ((23 : Nat), some (3 : Int)), ((24 : Nat), none), ((25 : Nat), some (3 : Int)), ((26 : Nat), none)] M M2 → CST M2 → VW f e (v_person f e N b).2.1 (v_person f e N b).2.1 M2 → ¬ (v_person f e N b).1 = true → Q (.inl (some (gm_vi 0))) n K R M2) : gm_Wp X LX d bc bs 116 0 (gm_ent 116 [gm_vr 213]) [] n K R M Q := by
  obtain ⟨⟨⟨a0, b0⟩, ⟨a1, b1⟩, ⟨a10, b10⟩, ⟨a11, b11⟩, ⟨a12, b12⟩, a9, b9⟩, ⟨⟨a2, b2⟩, ⟨a5, b5⟩, ⟨a3, b3⟩, ⟨a4, b4⟩, ⟨a6, b6⟩, ⟨a14, b14⟩, ⟨a7, b7⟩, a13, b13⟩, rF, rP, rL⟩ := id hN
  refine gm_sz (gm_p_load (pc := 0) (i := .aload_n 0) (sr := 2) (j := 0) (by decide +kernel) rfl rfl rfl) ?_
  refine gm_sz (fw_gr (pc := 1) (ix := 9) (ci := 7) (j := 2) (r := 16) (by decide +kernel) (e0k hE (k := 213) (c := 7) (by decide +kernel)) (by decide +kernel) (by decide +kernel) (e0r hE (k := 213) (j := 2) (r := 16) (by decide +kernel))) ?_
  refine gm_sz (fw_gr (pc := 4) (ix := 146) (ci := 1) (j := 11) (r := 21) (by decide +kernel) (e0k hE (k := 16) (c := 1) (by decide +kernel)) (by decide +kernel) (by decide +kernel) (e0r hE (k := 16) (j := 11) (r := 21) (by decide +kernel))) ?_
  refine gm_c_virt (k := 21) (ci := 2) (mj := 108) (ix := 105) (pc := 7) (as := []) (st := []) (d' := d - 1) (bc' := 0) (bs' := 0) (by decide +kernel) (by decide +kernel) (by decide +kernel) (by decide +kernel) (e0k hE (k := 21) (c := 2) (by decide +kernel)).1 (e0k hE (k := 21) (c := 2) (by decide +kernel)).2 (by decide) (by decide +kernel) (show 0 = gm_na 108 by decide +kernel) fw_c0 (show 1 ≤ gm_ml 108 by decide +kernel) (Nat.le_of_ble_eq_true rfl) (by omega) (Nat.zero_le _) (Nat.zero_le _) ?_
  refine rw_full (s := (N 3)) (m := 8) (e0k hE (k := 21) (c := 2) (by decide +kernel)) (dr_3 hT) (hC (21, 0, 8) (by decide)) ⟨⟨by omega, by omega⟩, ⟨by decide, by decide⟩⟩ (fun f7 => ?_) (fun f7 => ?_)
  · show gm_Wp X LX d _ _ 116 10 _ [gm_vi 1] n K _ _ Q
    have f7 : 8 ≤ (N 3) := f7
    refine fw_iffd (cc := .eq) (pc := 10) (off := 11) (by decide +kernel) (by decide) ⟨by decide, by decide⟩ (by decide) ?_
    refine gm_sz (gm_p_load (pc := 13) (i := .aload_n 0) (sr := 2) (j := 0) (by decide +kernel) rfl rfl rfl) ?_
    refine gm_sz (fw_gr (pc := 14) (ix := 15) (ci := 7) (j := 0) (r := 214) (by decide +kernel) (e0k hE (k := 213) (c := 7) (by decide +kernel)) (by decide +kernel) (by decide +kernel) (e0r hE (k := 213) (j := 0) (r := 214) (by decide +kernel))) ?_
    refine gm_c_virt (k := 214) (ci := 8) (mj := 93) (ix := 76) (pc := 17) (as := []) (st := []) (d' := d - 1) (bc' := 0) (bs' := 0) (by decide +kernel) (by decide +kernel) (by decide +kernel) (by decide +kernel) (e0k hE (k := 214) (c := 8) (by decide +kernel)).1 (e0k hE (k := 214) (c := 8) (by decide +kernel)).2 (by decide) (by decide +kernel) (show 0 = gm_na 93 by decide +kernel) fw_c0 (show 1 ≤ gm_ml 93 by decide +kernel) (Nat.le_of_ble_eq_true rfl) (by omega) (Nat.zero_le _) (Nat.zero_le _) ?_
    refine vw_93 hE hF hV hb (fun M17 hf17 hv17 => ?_)
    show gm_Wp X LX d _ _ 116 20 _ [gm_vi 0] n K _ _ Q
    have ev : v_person f e N b = (false, b, N) := by
      unfold v_person
      rw [tif_t (show N 3 = 8 by omega)]
      first | done | rfl
    rw [ev] at q0
    exact gm_r_int (pc := 20) (by decide +kernel) (Or.inr ⟨(by decide +kernel), Or.inl rfl⟩) (q0 _ (fr_t fr_0 hf17 (by decide)) (cst_fr (W := [((214 : Nat), some (3 : Int)), ((214 : Nat), some (4 : Int)), ((214 : Nat), some (5 : Int)), ((214 : Nat), some (6 : Int)), ((214 : Nat), some (7 : Int))]) hC (fr_t fr_0 hf17 (by decide)) (by decide +kernel)) hv17 (fun h => by cases h))
  · show gm_Wp X LX d _ _ 116 10 _ [gm_vi 0] n K _ _ Q
    have f7 : (N 3) < 8 := f7
    refine fw_iftd (cc := .eq) (pc := 10) (off := 11) (by decide +kernel) (by decide) ⟨by decide, by decide⟩ (by decide) ?_
    refine gm_sz (gm_p_load (pc := 21) (i := .aload_n 0) (sr := 2) (j := 0) (by decide +kernel) rfl rfl rfl) ?_
    refine gm_sz (fw_gr (pc := 22) (ix := 15) (ci := 7) (j := 0) (r := 214) (by decide +kernel) (e0k hE (k := 213) (c := 7) (by decide +kernel)) (by decide +kernel) (by decide +kernel) (e0r hE (k := 213) (j := 0) (r := 214) (by decide +kernel))) ?_
    refine gm_c_virt (k := 214) (ci := 8) (mj := 76) (ix := 84) (pc := 25) (as := []) (st := []) (d' := d - 1) (bc' := 0) (bs' := 0) (by decide +kernel) (by decide +kernel) (by decide +kernel) (by decide +kernel) (e0k hE (k := 214) (c := 8) (by decide +kernel)).1 (e0k hE (k := 214) (c := 8) (by decide +kernel)).2 (by decide) (by decide +kernel) (show 0 = gm_na 76 by decide +kernel) fw_c0 (show 1 ≤ gm_ml 76 by decide +kernel) (Nat.le_of_ble_eq_true rfl) (by omega) (Nat.zero_le _) (Nat.zero_le _) ?_
    refine vw_76 (by omega) hE hF hV hb (fun M25 hf25 hv25 => ?_)
    show gm_Wp X LX d _ _ 116 28 _ [] n K _ _ Q
    have hb25 := tx_nb (f := f) (e := e) (b := b) hb.2
    have hb25 : 0 ≤ tx_n f e b ∧ tx_n f e b ≤ e := ⟨by have := hb.1; omega, hb25.2.1⟩
    refine gm_sz (gm_p_load (pc := 28) (i := .aload_n 0) (sr := 2) (j := 0) (by decide +kernel) rfl rfl rfl) ?_
    refine gm_c_virt (k := 213) (ci := 7) (mj := 117) (ix := 149) (pc := 29) (as := []) (st := []) (d' := d - 1) (bc' := 0) (bs' := 0) (by decide +kernel) (by decide +kernel) (by decide +kernel) (by decide +kernel) (e0k hE (k := 213) (c := 7) (by decide +kernel)).1 (e0k hE (k := 213) (c := 7) (by decide +kernel)).2 (by decide) (by decide +kernel) (show 0 = gm_na 117 by decide +kernel) fw_c0 (show 1 ≤ gm_ml 117 by decide +kernel) (Nat.le_of_ble_eq_true rfl) (by omega) (Nat.zero_le _) (Nat.zero_le _) ?_
    refine vy_117 (by omega) hE (cst_fr (W := [((214 : Nat), some (3 : Int)), ((214 : Nat), some (4 : Int)), ((214 : Nat), some (5 : Int)), ((214 : Nat), some (6 : Int)), ((214 : Nat), some (7 : Int))]) hC (fr_t fr_0 hf25 (by decide)) (by decide +kernel)) hF hv25 hb25 ((cs_frd hf25 (by decide)).trans (hT)) hN (fun h29 M29 hf29 hv29 => ?_) (fun h29 M29 hf29 hv29 => ?_)
    · show gm_Wp X LX d _ _ 116 32 _ [gm_vi (tx_v f e 4 (tx_n f e b))] n K _ _ Q
      have h29 : vn f e 0 ((N 0) - 1) (tx_n f e b) := h29
      have hr29 : 0 ≤ tx_v f e 4 (tx_n f e b) ∧ tx_v f e 4 (tx_n f e b) ≤ (N 0) - 1 := h29.2
      have hb29 := tx_nb (f := f) (e := e) (b := (tx_n f e b)) hb25.2
      have hb29 : 0 ≤ tx_n f e (tx_n f e b) ∧ tx_n f e (tx_n f e b) ≤ e := ⟨by have := hb25.1; omega, hb29.2.1⟩
      refine gm_sz (gm_p_stor (pc := 32) (i := .istore_n 1) (sr := 0) (j := 1) (by decide +kernel) rfl (show 2 ≤ _ from Nat.le_of_ble_eq_true rfl) rfl) ?_
      refine gm_sz (gm_p_load (pc := 33) (i := .iload_n 1) (sr := 0) (j := 1) (by decide +kernel) rfl rfl rfl) ?_
      refine gm_sz (gm_p_const (pc := 34) (i := .iconst (-1)) (v := gm_vi (-1)) (by decide +kernel) (by decide +kernel)) ?_
      refine fw_ict (cc := .ne) (pc := 35) (off := 7) (by decide +kernel) (by decide) ⟨by omega, by omega⟩ ⟨by decide, by decide⟩ (show ¬ (tx_v f e 4 (tx_n f e b)) = (-1) by omega) ?_
      refine gm_sz (gm_p_load (pc := 42) (i := .aload_n 0) (sr := 2) (j := 0) (by decide +kernel) rfl rfl rfl) ?_
      refine gm_c_virt (k := 213) (ci := 7) (mj := 111) (ix := 128) (pc := 43) (as := []) (st := []) (d' := d - 1) (bc' := 0) (bs' := 0) (by decide +kernel) (by decide +kernel) (by decide +kernel) (by decide +kernel) (e0k hE (k := 213) (c := 7) (by decide +kernel)).1 (e0k hE (k := 213) (c := 7) (by decide +kernel)).2 (by decide) (by decide +kernel) (show 0 = gm_na 111 by decide +kernel) fw_c0 (show 1 ≤ gm_ml 111 by decide +kernel) (Nat.le_of_ble_eq_true rfl) (by omega) (Nat.zero_le _) (Nat.zero_le _) ?_
      refine vy_111 (by omega) hE (cst_fr (W := [((214 : Nat), some (3 : Int)), ((214 : Nat), some (4 : Int)), ((214 : Nat), some (5 : Int)), ((214 : Nat), some (6 : Int)), ((214 : Nat), some (7 : Int))]) hC (fr_t (fr_t fr_0 hf25 (by decide)) hf29 (by decide)) (by decide +kernel)) hF hv29 hb29 ((cs_frd hf29 (by decide)).trans ((cs_frd hf25 (by decide)).trans (hT))) hN (fun h43 M43 hf43 hv43 => ?_) (fun h43 M43 hf43 hv43 => ?_)
      · show gm_Wp X LX d _ _ 116 46 _ [gm_vi (tx_v f e 4 (tx_n f e (tx_n f e b)))] n K _ _ Q
        have h43 : vn f e 0 ((N 1) - 1) (tx_n f e (tx_n f e b)) := h43
        have hr43 : 0 ≤ tx_v f e 4 (tx_n f e (tx_n f e b)) ∧ tx_v f e 4 (tx_n f e (tx_n f e b)) ≤ (N 1) - 1 := h43.2
        have hb43 := tx_nb (f := f) (e := e) (b := (tx_n f e (tx_n f e b))) hb29.2
        have hb43 : 0 ≤ tx_n f e (tx_n f e (tx_n f e b)) ∧ tx_n f e (tx_n f e (tx_n f e b)) ≤ e := ⟨by have := hb29.1; omega, hb43.2.1⟩
        refine gm_sz (gm_p_stor (pc := 46) (i := .istore_n 2) (sr := 0) (j := 2) (by decide +kernel) rfl (show 3 ≤ _ from Nat.le_of_ble_eq_true rfl) rfl) ?_
        refine gm_sz (gm_p_load (pc := 47) (i := .iload_n 2) (sr := 0) (j := 2) (by decide +kernel) rfl rfl rfl) ?_
        refine gm_sz (gm_p_const (pc := 48) (i := .iconst (-1)) (v := gm_vi (-1)) (by decide +kernel) (by decide +kernel)) ?_
        refine fw_ict (cc := .ne) (pc := 49) (off := 5) (by decide +kernel) (by decide) ⟨by omega, by omega⟩ ⟨by decide, by decide⟩ (show ¬ (tx_v f e 4 (tx_n f e (tx_n f e b))) = (-1) by omega) ?_
        refine gm_sz (gm_p_const (pc := 54) (i := .iconst (-1)) (v := gm_vi (-1)) (by decide +kernel) (by decide +kernel)) ?_
        refine gm_sz (gm_p_stor (pc := 55) (i := .istore_n 3) (sr := 0) (j := 3) (by decide +kernel) rfl (show 4 ≤ _ from Nat.le_of_ble_eq_true rfl) rfl) ?_
        refine gm_sz (gm_p_load (pc := 56) (i := .aload_n 0) (sr := 2) (j := 0) (by decide +kernel) rfl rfl rfl) ?_
        refine gm_sz (fw_gr (pc := 57) (ix := 15) (ci := 7) (j := 0) (r := 214) (by decide +kernel) (e0k hE (k := 213) (c := 7) (by decide +kernel)) (by decide +kernel) (by decide +kernel) (e0r hE (k := 213) (j := 0) (r := 214) (by decide +kernel))) ?_
        refine gm_sz (gm_p_ldcs (pc := 60) (i := .ldc 152) (ix := 152) (id := 26) (by decide +kernel) (Or.inl rfl) (by decide +kernel)) ?_
        refine gm_c_virt (k := 214) (ci := 8) (mj := 95) (ix := 154) (pc := 62) (as := [gm_vo 26]) (st := []) (d' := d - 1) (bc' := 0) (bs' := 0) (by decide +kernel) (by decide +kernel) (by decide +kernel) (by decide +kernel) (e0k hE (k := 214) (c := 8) (by decide +kernel)).1 (e0k hE (k := 214) (c := 8) (by decide +kernel)).2 (by decide) (by decide +kernel) (show 1 = gm_na 95 by decide +kernel) (fw_c1 fw_so) (show 2 ≤ gm_ml 95 by decide +kernel) (Nat.le_of_ble_eq_true rfl) (by omega) (Nat.zero_le _) (Nat.zero_le _) ?_
        refine vw_95 (by omega) hE hF hv43 (by decide) (show tx_o 26 = wv_watch by decide +kernel) hb43 (fun h62 M62 hf62 hv62 => ?_) (fun h62 M62 hf62 hv62 => ?_)
        · show gm_Wp X LX d _ _ 116 65 _ [gm_vi 1] n K _ _ Q
          have h62 : tx_is f e (tx_n f e (tx_n f e (tx_n f e b))) wv_watch := h62
          have hb62 := tx_nb (f := f) (e := e) (b := (tx_n f e (tx_n f e (tx_n f e b)))) hb43.2
          have hb62 : 0 ≤ tx_n f e (tx_n f e (tx_n f e (tx_n f e b))) ∧ tx_n f e (tx_n f e (tx_n f e (tx_n f e b))) ≤ e := ⟨by have := hb43.1; omega, hb62.2.1⟩
          refine fw_iffd (cc := .eq) (pc := 65) (off := 15) (by decide +kernel) (by decide) ⟨by decide, by decide⟩ (by decide) ?_
          refine gm_sz (gm_p_load (pc := 68) (i := .aload_n 0) (sr := 2) (j := 0) (by decide +kernel) rfl rfl rfl) ?_
          refine gm_c_virt (k := 213) (ci := 7) (mj := 117) (ix := 149) (pc := 69) (as := []) (st := []) (d' := d - 1) (bc' := 0) (bs' := 0) (by decide +kernel) (by decide +kernel) (by decide +kernel) (by decide +kernel) (e0k hE (k := 213) (c := 7) (by decide +kernel)).1 (e0k hE (k := 213) (c := 7) (by decide +kernel)).2 (by decide) (by decide +kernel) (show 0 = gm_na 117 by decide +kernel) fw_c0 (show 1 ≤ gm_ml 117 by decide +kernel) (Nat.le_of_ble_eq_true rfl) (by omega) (Nat.zero_le _) (Nat.zero_le _) ?_
          refine vy_117 (by omega) hE (cst_fr (W := [((214 : Nat), some (3 : Int)), ((214 : Nat), some (4 : Int)), ((214 : Nat), some (5 : Int)), ((214 : Nat), some (6 : Int)), ((214 : Nat), some (7 : Int))]) hC (fr_t (fr_t (fr_t (fr_t fr_0 hf25 (by decide)) hf29 (by decide)) hf43 (by decide)) hf62 (by decide)) (by decide +kernel)) hF hv62 hb62 ((cs_frd hf62 (by decide)).trans ((cs_frd hf43 (by decide)).trans ((cs_frd hf29 (by decide)).trans ((cs_frd hf25 (by decide)).trans (hT))))) hN (fun h69 M69 hf69 hv69 => ?_) (fun h69 M69 hf69 hv69 => ?_)
          · show gm_Wp X LX d _ _ 116 72 _ [gm_vi (tx_v f e 4 (tx_n f e (tx_n f e (tx_n f e (tx_n f e b)))))] n K _ _ Q
            have h69 : vn f e 0 ((N 0) - 1) (tx_n f e (tx_n f e (tx_n f e (tx_n f e b)))) := h69
            have hr69 : 0 ≤ tx_v f e 4 (tx_n f e (tx_n f e (tx_n f e (tx_n f e b)))) ∧ tx_v f e 4 (tx_n f e (tx_n f e (tx_n f e (tx_n f e b)))) ≤ (N 0) - 1 := h69.2
            have hb69 := tx_nb (f := f) (e := e) (b := (tx_n f e (tx_n f e (tx_n f e (tx_n f e b))))) hb62.2
            have hb69 : 0 ≤ tx_n f e (tx_n f e (tx_n f e (tx_n f e (tx_n f e b)))) ∧ tx_n f e (tx_n f e (tx_n f e (tx_n f e (tx_n f e b)))) ≤ e := ⟨by have := hb62.1; omega, hb69.2.1⟩
            refine gm_sz (gm_p_stor (pc := 72) (i := .istore_n 3) (sr := 0) (j := 3) (by decide +kernel) rfl (show 4 ≤ _ from Nat.le_of_ble_eq_true rfl) rfl) ?_
            refine gm_sz (gm_p_load (pc := 73) (i := .iload_n 3) (sr := 0) (j := 3) (by decide +kernel) rfl rfl rfl) ?_
            refine gm_sz (gm_p_const (pc := 74) (i := .iconst (-1)) (v := gm_vi (-1)) (by decide +kernel) (by decide +kernel)) ?_
            refine fw_ict (cc := .ne) (pc := 75) (off := 5) (by decide +kernel) (by decide) ⟨by omega, by omega⟩ ⟨by decide, by decide⟩ (show ¬ (tx_v f e 4 (tx_n f e (tx_n f e (tx_n f e (tx_n f e b))))) = (-1) by omega) ?_
            refine gm_sz (gm_p_load (pc := 80) (i := .aload_n 0) (sr := 2) (j := 0) (by decide +kernel) rfl rfl rfl) ?_
            refine gm_sz (fw_gr (pc := 81) (ix := 9) (ci := 7) (j := 2) (r := 16) (by decide +kernel) (e0k hE (k := 213) (c := 7) (by decide +kernel)) (by decide +kernel) (by decide +kernel) (e0r hE (k := 213) (j := 2) (r := 16) (by decide +kernel))) ?_
            refine gm_sz (fw_gr (pc := 84) (ix := 146) (ci := 1) (j := 11) (r := 21) (by decide +kernel) (e0k hE (k := 16) (c := 1) (by decide +kernel)) (by decide +kernel) (by decide +kernel) (e0r hE (k := 16) (j := 11) (r := 21) (by decide +kernel))) ?_
            refine gm_c_virt (k := 21) (ci := 2) (mj := 102) (ix := 117) (pc := 87) (as := []) (st := []) (d' := d - 1) (bc' := 0) (bs' := 0) (by decide +kernel) (by decide +kernel) (by decide +kernel) (by decide +kernel) (e0k hE (k := 21) (c := 2) (by decide +kernel)).1 (e0k hE (k := 21) (c := 2) (by decide +kernel)).2 (by decide) (by decide +kernel) (show 0 = gm_na 102 by decide +kernel) fw_c0 (show 1 ≤ gm_ml 102 by decide +kernel) (Nat.le_of_ble_eq_true rfl) (by omega) (Nat.zero_le _) (Nat.zero_le _) ?_
            refine rw_add (s := (N 3)) (m := 8) (e0k hE (k := 21) (c := 2) (by decide +kernel)) ((fr_c hf69 (by decide)).trans ((fr_c hf62 (by decide)).trans ((fr_c hf43 (by decide)).trans ((fr_c hf29 (by decide)).trans ((fr_c hf25 (by decide)).trans (dr_3 hT)))))) ((fr_c hf69 (by decide)).trans ((fr_c hf62 (by decide)).trans ((fr_c hf43 (by decide)).trans ((fr_c hf29 (by decide)).trans ((fr_c hf25 (by decide)).trans (hC (21, 0, 8) (by decide))))))) ⟨by omega, by omega⟩ (by omega) ?_
            show gm_Wp X LX d _ _ 116 90 _ [gm_vi (N 3)] n K _ _ Q
            refine gm_sz (gm_p_stor (pc := 90) (i := .istore 4) (sr := 0) (j := 4) (by decide +kernel) rfl (show 5 ≤ _ from Nat.le_of_ble_eq_true rfl) rfl) ?_
            refine gm_sz (gm_p_load (pc := 92) (i := .aload_n 0) (sr := 2) (j := 0) (by decide +kernel) rfl rfl rfl) ?_
            refine gm_sz (fw_gr (pc := 93) (ix := 9) (ci := 7) (j := 2) (r := 16) (by decide +kernel) (e0k hE (k := 213) (c := 7) (by decide +kernel)) (by decide +kernel) (by decide +kernel) (e0r hE (k := 213) (j := 2) (r := 16) (by decide +kernel))) ?_
            refine gm_sz (fw_gr (pc := 96) (ix := 146) (ci := 1) (j := 11) (r := 21) (by decide +kernel) (e0k hE (k := 16) (c := 1) (by decide +kernel)) (by decide +kernel) (by decide +kernel) (e0r hE (k := 16) (j := 11) (r := 21) (by decide +kernel))) ?_
            refine gm_sz (gm_p_load (pc := 99) (i := .iload 4) (sr := 0) (j := 4) (by decide +kernel) rfl rfl rfl) ?_
            refine gm_sz (gm_p_const (pc := 101) (i := .iconst 0) (v := gm_vi 0) (by decide +kernel) (by decide +kernel)) ?_
            refine gm_sz (gm_p_load (pc := 102) (i := .iload_n 1) (sr := 0) (j := 1) (by decide +kernel) rfl rfl rfl) ?_
            refine gm_c_virt (k := 21) (ci := 2) (mj := 45) (ix := 120) (pc := 103) (as := [gm_vi (N 3), gm_vi 0, gm_vi (tx_v f e 4 (tx_n f e b))]) (st := []) (d' := d - 1) (bc' := 0) (bs' := 0) (by decide +kernel) (by decide +kernel) (by decide +kernel) (by decide +kernel) (e0k hE (k := 21) (c := 2) (by decide +kernel)).1 (e0k hE (k := 21) (c := 2) (by decide +kernel)).2 (by decide) (by decide +kernel) (show 3 = gm_na 45 by decide +kernel) (fw_c3 fw_si fw_si fw_si) (show 4 ≤ gm_ml 45 by decide +kernel) (Nat.le_of_ble_eq_true rfl) (by omega) (Nat.zero_le _) (Nat.zero_le _) ?_
            refine rw_put (s := (N 3) + 1) (w := 3) (e0k hE (k := 21) (c := 2) (by decide +kernel)) (e0a hE (k := 22) (q := ((0 : Nat), (24 : Nat))) (by decide +kernel)) (e0r hE (k := 21) (j := 2) (r := 22) (by decide +kernel)) (by decide) uM_at ((uM_ne (by omega)).trans ((fr_c hf69 (by decide)).trans ((fr_c hf62 (by decide)).trans ((fr_c hf43 (by decide)).trans ((fr_c hf29 (by decide)).trans ((fr_c hf25 (by decide)).trans (hC (21, 1, 3) (by decide)))))))) ⟨by omega, by omega⟩ ⟨by omega, by omega⟩ ⟨by omega, by omega⟩ ⟨by omega, by omega⟩ ?_
            show gm_Wp X LX d _ _ 116 106 _ [] n K _ _ Q
            refine gm_sz (gm_p_load (pc := 106) (i := .aload_n 0) (sr := 2) (j := 0) (by decide +kernel) rfl rfl rfl) ?_
            refine gm_sz (fw_gr (pc := 107) (ix := 9) (ci := 7) (j := 2) (r := 16) (by decide +kernel) (e0k hE (k := 213) (c := 7) (by decide +kernel)) (by decide +kernel) (by decide +kernel) (e0r hE (k := 213) (j := 2) (r := 16) (by decide +kernel))) ?_
            refine gm_sz (fw_gr (pc := 110) (ix := 146) (ci := 1) (j := 11) (r := 21) (by decide +kernel) (e0k hE (k := 16) (c := 1) (by decide +kernel)) (by decide +kernel) (by decide +kernel) (e0r hE (k := 16) (j := 11) (r := 21) (by decide +kernel))) ?_
            refine gm_sz (gm_p_load (pc := 113) (i := .iload 4) (sr := 0) (j := 4) (by decide +kernel) rfl rfl rfl) ?_
            refine gm_sz (gm_p_const (pc := 115) (i := .iconst 1) (v := gm_vi 1) (by decide +kernel) (by decide +kernel)) ?_
            refine gm_sz (gm_p_load (pc := 116) (i := .iload_n 2) (sr := 0) (j := 2) (by decide +kernel) rfl rfl rfl) ?_
            refine gm_c_virt (k := 21) (ci := 2) (mj := 45) (ix := 120) (pc := 117) (as := [gm_vi (N 3), gm_vi 1, gm_vi (tx_v f e 4 (tx_n f e (tx_n f e b)))]) (st := []) (d' := d - 1) (bc' := 0) (bs' := 0) (by decide +kernel) (by decide +kernel) (by decide +kernel) (by decide +kernel) (e0k hE (k := 21) (c := 2) (by decide +kernel)).1 (e0k hE (k := 21) (c := 2) (by decide +kernel)).2 (by decide) (by decide +kernel) (show 3 = gm_na 45 by decide +kernel) (fw_c3 fw_si fw_si fw_si) (show 4 ≤ gm_ml 45 by decide +kernel) (Nat.le_of_ble_eq_true rfl) (by omega) (Nat.zero_le _) (Nat.zero_le _) ?_
            refine rw_put (s := (N 3) + 1) (w := 3) (e0k hE (k := 21) (c := 2) (by decide +kernel)) (e0a hE (k := 22) (q := ((0 : Nat), (24 : Nat))) (by decide +kernel)) (e0r hE (k := 21) (j := 2) (r := 22) (by decide +kernel)) (by decide) ((uM_ne (by omega)).trans uM_at) ((uM_ne (by omega)).trans ((uM_ne (by omega)).trans ((fr_c hf69 (by decide)).trans ((fr_c hf62 (by decide)).trans ((fr_c hf43 (by decide)).trans ((fr_c hf29 (by decide)).trans ((fr_c hf25 (by decide)).trans (hC (21, 1, 3) (by decide))))))))) ⟨by omega, by omega⟩ ⟨by omega, by omega⟩ ⟨by omega, by omega⟩ ⟨by omega, by omega⟩ ?_
            show gm_Wp X LX d _ _ 116 120 _ [] n K _ _ Q
            refine gm_sz (gm_p_load (pc := 120) (i := .aload_n 0) (sr := 2) (j := 0) (by decide +kernel) rfl rfl rfl) ?_
            refine gm_sz (fw_gr (pc := 121) (ix := 9) (ci := 7) (j := 2) (r := 16) (by decide +kernel) (e0k hE (k := 213) (c := 7) (by decide +kernel)) (by decide +kernel) (by decide +kernel) (e0r hE (k := 213) (j := 2) (r := 16) (by decide +kernel))) ?_
            refine gm_sz (fw_gr (pc := 124) (ix := 146) (ci := 1) (j := 11) (r := 21) (by decide +kernel) (e0k hE (k := 16) (c := 1) (by decide +kernel)) (by decide +kernel) (by decide +kernel) (e0r hE (k := 16) (j := 11) (r := 21) (by decide +kernel))) ?_
            refine gm_sz (gm_p_load (pc := 127) (i := .iload 4) (sr := 0) (j := 4) (by decide +kernel) rfl rfl rfl) ?_
            refine gm_sz (gm_p_const (pc := 129) (i := .iconst 2) (v := gm_vi 2) (by decide +kernel) (by decide +kernel)) ?_
            refine gm_sz (gm_p_load (pc := 130) (i := .iload_n 3) (sr := 0) (j := 3) (by decide +kernel) rfl rfl rfl) ?_
            refine gm_c_virt (k := 21) (ci := 2) (mj := 45) (ix := 120) (pc := 131) (as := [gm_vi (N 3), gm_vi 2, gm_vi (tx_v f e 4 (tx_n f e (tx_n f e (tx_n f e (tx_n f e b)))))]) (st := []) (d' := d - 1) (bc' := 0) (bs' := 0) (by decide +kernel) (by decide +kernel) (by decide +kernel) (by decide +kernel) (e0k hE (k := 21) (c := 2) (by decide +kernel)).1 (e0k hE (k := 21) (c := 2) (by decide +kernel)).2 (by decide) (by decide +kernel) (show 3 = gm_na 45 by decide +kernel) (fw_c3 fw_si fw_si fw_si) (show 4 ≤ gm_ml 45 by decide +kernel) (Nat.le_of_ble_eq_true rfl) (by omega) (Nat.zero_le _) (Nat.zero_le _) ?_
            refine rw_put (s := (N 3) + 1) (w := 3) (e0k hE (k := 21) (c := 2) (by decide +kernel)) (e0a hE (k := 22) (q := ((0 : Nat), (24 : Nat))) (by decide +kernel)) (e0r hE (k := 21) (j := 2) (r := 22) (by decide +kernel)) (by decide) ((uM_ne (by omega)).trans ((uM_ne (by omega)).trans uM_at)) ((uM_ne (by omega)).trans ((uM_ne (by omega)).trans ((uM_ne (by omega)).trans ((fr_c hf69 (by decide)).trans ((fr_c hf62 (by decide)).trans ((fr_c hf43 (by decide)).trans ((fr_c hf29 (by decide)).trans ((fr_c hf25 (by decide)).trans (hC (21, 1, 3) (by decide)))))))))) ⟨by omega, by omega⟩ ⟨by omega, by omega⟩ ⟨by omega, by omega⟩ ⟨by omega, by omega⟩ ?_
            show gm_Wp X LX d _ _ 116 134 _ [] n K _ _ Q
            refine gm_sz (gm_p_const (pc := 134) (i := .iconst 1) (v := gm_vi 1) (by decide +kernel) (by decide +kernel)) ?_
            have ev : v_person f e N b = (true, (tx_n f e (tx_n f e (tx_n f e (tx_n f e (tx_n f e b))))), (nup (nup (nup (nup N 3 ((N 3) + 1)) (95 + ((N 3) * 3 + 0)) (tx_v f e 4 (tx_n f e b))) (95 + ((N 3) * 3 + 1)) (tx_v f e 4 (tx_n f e (tx_n f e b)))) (95 + ((N 3) * 3 + 2)) (tx_v f e 4 (tx_n f e (tx_n f e (tx_n f e (tx_n f e b))))))) := by
              unfold v_person
              rw [tif_f (show ¬ N 3 = 8 by omega), tif_t h29, tif_t h43, tif_t h62, tif_t h69]
              first | done | rfl
            rw [ev] at q1
            exact gm_r_int (pc := 135) (by decide +kernel) (Or.inr ⟨(by decide +kernel), Or.inr rfl⟩) (q1 _ (fr_p (fr_p (fr_p (fr_p (fr_t (fr_t (fr_t (fr_t (fr_t fr_0 hf25 (by decide)) hf29 (by decide)) hf43 (by decide)) hf62 (by decide)) hf69 (by decide)) (Or.inr (by decide))) (Or.inl (by decide))) (Or.inl (by decide))) (Or.inl (by decide))) (cst_fr (W := [((214 : Nat), some (3 : Int)), ((214 : Nat), some (4 : Int)), ((214 : Nat), some (5 : Int)), ((214 : Nat), some (6 : Int)), ((214 : Nat), some (7 : Int)), ((21 : Nat), some (3 : Int)), ((22 : Nat), none)]) hC (fr_p (fr_p (fr_p (fr_p (fr_t (fr_t (fr_t (fr_t (fr_t fr_0 hf25 (by decide)) hf29 (by decide)) hf43 (by decide)) hf62 (by decide)) hf69 (by decide)) (Or.inr (by decide))) (Or.inl (by decide))) (Or.inl (by decide))) (Or.inl (by decide))) (by decide +kernel)) (vw_fr (W := [((21 : Nat), some (3 : Int)), ((22 : Nat), none)]) hv69 (fr_p (fr_p (fr_p (fr_p fr_0 (Or.inr (by decide))) (Or.inl (by decide))) (Or.inl (by decide))) (Or.inl (by decide))) (by decide)) ((cs_pP (b := 16) (by omega) (by omega)).trans (congrArg (fun V9 => nup V9 (95 + ((N 3) * 3 + 2)) (tx_v f e 4 (tx_n f e (tx_n f e (tx_n f e (tx_n f e b)))))) ((cs_pP (b := 16) (by omega) (by omega)).trans (congrArg (fun V9 => nup V9 (95 + ((N 3) * 3 + 1)) (tx_v f e 4 (tx_n f e (tx_n f e b)))) ((cs_pP (b := 16) (by omega) (by omega)).trans (congrArg (fun V9 => nup V9 (95 + ((N 3) * 3 + 0)) (tx_v f e 4 (tx_n f e b))) ((cs_f3 (b := 16)).trans (congrArg (fun V9 => nup V9 3 ((N 3) + 1)) ((cs_frd hf69 (by decide)).trans ((cs_frd hf62 (by decide)).trans ((cs_frd hf43 (by decide)).trans ((cs_frd hf29 (by decide)).trans ((cs_frd hf25 (by decide)).trans (hT)))))))))))))) rfl)
          · show gm_Wp X LX d _ _ 116 72 _ [gm_vi (-1)] n K _ _ Q
            have h69 : ¬ vn f e 0 ((N 0) - 1) (tx_n f e (tx_n f e (tx_n f e (tx_n f e b)))) := h69
            refine gm_sz (gm_p_stor (pc := 72) (i := .istore_n 3) (sr := 0) (j := 3) (by decide +kernel) rfl (show 4 ≤ _ from Nat.le_of_ble_eq_true rfl) rfl) ?_
            refine gm_sz (gm_p_load (pc := 73) (i := .iload_n 3) (sr := 0) (j := 3) (by decide +kernel) rfl rfl rfl) ?_
            refine gm_sz (gm_p_const (pc := 74) (i := .iconst (-1)) (v := gm_vi (-1)) (by decide +kernel) (by decide +kernel)) ?_
            refine fw_icfd (cc := .ne) (pc := 75) (off := 5) (by decide +kernel) (by decide) ⟨by decide, by decide⟩ ⟨by decide, by decide⟩ (by decide) ?_
            refine gm_sz (gm_p_const (pc := 78) (i := .iconst 0) (v := gm_vi 0) (by decide +kernel) (by decide +kernel)) ?_
            have ev : v_person f e N b = (false, (tx_n f e (tx_n f e (tx_n f e (tx_n f e b)))), N) := by
              unfold v_person
              rw [tif_f (show ¬ N 3 = 8 by omega), tif_t h29, tif_t h43, tif_t h62, tif_f h69]
              first | done | rfl
            rw [ev] at q0
            exact gm_r_int (pc := 79) (by decide +kernel) (Or.inr ⟨(by decide +kernel), Or.inl rfl⟩) (q0 _ (fr_t (fr_t (fr_t (fr_t (fr_t fr_0 hf25 (by decide)) hf29 (by decide)) hf43 (by decide)) hf62 (by decide)) hf69 (by decide)) (cst_fr (W := [((214 : Nat), some (3 : Int)), ((214 : Nat), some (4 : Int)), ((214 : Nat), some (5 : Int)), ((214 : Nat), some (6 : Int)), ((214 : Nat), some (7 : Int))]) hC (fr_t (fr_t (fr_t (fr_t (fr_t fr_0 hf25 (by decide)) hf29 (by decide)) hf43 (by decide)) hf62 (by decide)) hf69 (by decide)) (by decide +kernel)) hv69 (fun h => by cases h))
        · show gm_Wp X LX d _ _ 116 65 _ [gm_vi 0] n K _ _ Q
          have h62 : ¬ tx_is f e (tx_n f e (tx_n f e (tx_n f e b))) wv_watch := h62
          refine fw_iftd (cc := .eq) (pc := 65) (off := 15) (by decide +kernel) (by decide) ⟨by decide, by decide⟩ (by decide) ?_
          refine gm_sz (gm_p_load (pc := 80) (i := .aload_n 0) (sr := 2) (j := 0) (by decide +kernel) rfl rfl rfl) ?_
          refine gm_sz (fw_gr (pc := 81) (ix := 9) (ci := 7) (j := 2) (r := 16) (by decide +kernel) (e0k hE (k := 213) (c := 7) (by decide +kernel)) (by decide +kernel) (by decide +kernel) (e0r hE (k := 213) (j := 2) (r := 16) (by decide +kernel))) ?_
          refine gm_sz (fw_gr (pc := 84) (ix := 146) (ci := 1) (j := 11) (r := 21) (by decide +kernel) (e0k hE (k := 16) (c := 1) (by decide +kernel)) (by decide +kernel) (by decide +kernel) (e0r hE (k := 16) (j := 11) (r := 21) (by decide +kernel))) ?_
          refine gm_c_virt (k := 21) (ci := 2) (mj := 102) (ix := 117) (pc := 87) (as := []) (st := []) (d' := d - 1) (bc' := 0) (bs' := 0) (by decide +kernel) (by decide +kernel) (by decide +kernel) (by decide +kernel) (e0k hE (k := 21) (c := 2) (by decide +kernel)).1 (e0k hE (k := 21) (c := 2) (by decide +kernel)).2 (by decide) (by decide +kernel) (show 0 = gm_na 102 by decide +kernel) fw_c0 (show 1 ≤ gm_ml 102 by decide +kernel) (Nat.le_of_ble_eq_true rfl) (by omega) (Nat.zero_le _) (Nat.zero_le _) ?_
          refine rw_add (s := (N 3)) (m := 8) (e0k hE (k := 21) (c := 2) (by decide +kernel)) ((fr_c hf62 (by decide)).trans ((fr_c hf43 (by decide)).trans ((fr_c hf29 (by decide)).trans ((fr_c hf25 (by decide)).trans (dr_3 hT))))) ((fr_c hf62 (by decide)).trans ((fr_c hf43 (by decide)).trans ((fr_c hf29 (by decide)).trans ((fr_c hf25 (by decide)).trans (hC (21, 0, 8) (by decide)))))) ⟨by omega, by omega⟩ (by omega) ?_
          show gm_Wp X LX d _ _ 116 90 _ [gm_vi (N 3)] n K _ _ Q
          refine gm_sz (gm_p_stor (pc := 90) (i := .istore 4) (sr := 0) (j := 4) (by decide +kernel) rfl (show 5 ≤ _ from Nat.le_of_ble_eq_true rfl) rfl) ?_
          refine gm_sz (gm_p_load (pc := 92) (i := .aload_n 0) (sr := 2) (j := 0) (by decide +kernel) rfl rfl rfl) ?_
          refine gm_sz (fw_gr (pc := 93) (ix := 9) (ci := 7) (j := 2) (r := 16) (by decide +kernel) (e0k hE (k := 213) (c := 7) (by decide +kernel)) (by decide +kernel) (by decide +kernel) (e0r hE (k := 213) (j := 2) (r := 16) (by decide +kernel))) ?_
          refine gm_sz (fw_gr (pc := 96) (ix := 146) (ci := 1) (j := 11) (r := 21) (by decide +kernel) (e0k hE (k := 16) (c := 1) (by decide +kernel)) (by decide +kernel) (by decide +kernel) (e0r hE (k := 16) (j := 11) (r := 21) (by decide +kernel))) ?_
          refine gm_sz (gm_p_load (pc := 99) (i := .iload 4) (sr := 0) (j := 4) (by decide +kernel) rfl rfl rfl) ?_
          refine gm_sz (gm_p_const (pc := 101) (i := .iconst 0) (v := gm_vi 0) (by decide +kernel) (by decide +kernel)) ?_
          refine gm_sz (gm_p_load (pc := 102) (i := .iload_n 1) (sr := 0) (j := 1) (by decide +kernel) rfl rfl rfl) ?_
          refine gm_c_virt (k := 21) (ci := 2) (mj := 45) (ix := 120) (pc := 103) (as := [gm_vi (N 3), gm_vi 0, gm_vi (tx_v f e 4 (tx_n f e b))]) (st := []) (d' := d - 1) (bc' := 0) (bs' := 0) (by decide +kernel) (by decide +kernel) (by decide +kernel) (by decide +kernel) (e0k hE (k := 21) (c := 2) (by decide +kernel)).1 (e0k hE (k := 21) (c := 2) (by decide +kernel)).2 (by decide) (by decide +kernel) (show 3 = gm_na 45 by decide +kernel) (fw_c3 fw_si fw_si fw_si) (show 4 ≤ gm_ml 45 by decide +kernel) (Nat.le_of_ble_eq_true rfl) (by omega) (Nat.zero_le _) (Nat.zero_le _) ?_
          refine rw_put (s := (N 3) + 1) (w := 3) (e0k hE (k := 21) (c := 2) (by decide +kernel)) (e0a hE (k := 22) (q := ((0 : Nat), (24 : Nat))) (by decide +kernel)) (e0r hE (k := 21) (j := 2) (r := 22) (by decide +kernel)) (by decide) uM_at ((uM_ne (by omega)).trans ((fr_c hf62 (by decide)).trans ((fr_c hf43 (by decide)).trans ((fr_c hf29 (by decide)).trans ((fr_c hf25 (by decide)).trans (hC (21, 1, 3) (by decide))))))) ⟨by omega, by omega⟩ ⟨by omega, by omega⟩ ⟨by omega, by omega⟩ ⟨by omega, by omega⟩ ?_
          show gm_Wp X LX d _ _ 116 106 _ [] n K _ _ Q
          refine gm_sz (gm_p_load (pc := 106) (i := .aload_n 0) (sr := 2) (j := 0) (by decide +kernel) rfl rfl rfl) ?_
          refine gm_sz (fw_gr (pc := 107) (ix := 9) (ci := 7) (j := 2) (r := 16) (by decide +kernel) (e0k hE (k := 213) (c := 7) (by decide +kernel)) (by decide +kernel) (by decide +kernel) (e0r hE (k := 213) (j := 2) (r := 16) (by decide +kernel))) ?_
          refine gm_sz (fw_gr (pc := 110) (ix := 146) (ci := 1) (j := 11) (r := 21) (by decide +kernel) (e0k hE (k := 16) (c := 1) (by decide +kernel)) (by decide +kernel) (by decide +kernel) (e0r hE (k := 16) (j := 11) (r := 21) (by decide +kernel))) ?_
          refine gm_sz (gm_p_load (pc := 113) (i := .iload 4) (sr := 0) (j := 4) (by decide +kernel) rfl rfl rfl) ?_
          refine gm_sz (gm_p_const (pc := 115) (i := .iconst 1) (v := gm_vi 1) (by decide +kernel) (by decide +kernel)) ?_
          refine gm_sz (gm_p_load (pc := 116) (i := .iload_n 2) (sr := 0) (j := 2) (by decide +kernel) rfl rfl rfl) ?_
          refine gm_c_virt (k := 21) (ci := 2) (mj := 45) (ix := 120) (pc := 117) (as := [gm_vi (N 3), gm_vi 1, gm_vi (tx_v f e 4 (tx_n f e (tx_n f e b)))]) (st := []) (d' := d - 1) (bc' := 0) (bs' := 0) (by decide +kernel) (by decide +kernel) (by decide +kernel) (by decide +kernel) (e0k hE (k := 21) (c := 2) (by decide +kernel)).1 (e0k hE (k := 21) (c := 2) (by decide +kernel)).2 (by decide) (by decide +kernel) (show 3 = gm_na 45 by decide +kernel) (fw_c3 fw_si fw_si fw_si) (show 4 ≤ gm_ml 45 by decide +kernel) (Nat.le_of_ble_eq_true rfl) (by omega) (Nat.zero_le _) (Nat.zero_le _) ?_
          refine rw_put (s := (N 3) + 1) (w := 3) (e0k hE (k := 21) (c := 2) (by decide +kernel)) (e0a hE (k := 22) (q := ((0 : Nat), (24 : Nat))) (by decide +kernel)) (e0r hE (k := 21) (j := 2) (r := 22) (by decide +kernel)) (by decide) ((uM_ne (by omega)).trans uM_at) ((uM_ne (by omega)).trans ((uM_ne (by omega)).trans ((fr_c hf62 (by decide)).trans ((fr_c hf43 (by decide)).trans ((fr_c hf29 (by decide)).trans ((fr_c hf25 (by decide)).trans (hC (21, 1, 3) (by decide)))))))) ⟨by omega, by omega⟩ ⟨by omega, by omega⟩ ⟨by omega, by omega⟩ ⟨by omega, by omega⟩ ?_
          show gm_Wp X LX d _ _ 116 120 _ [] n K _ _ Q
          refine gm_sz (gm_p_load (pc := 120) (i := .aload_n 0) (sr := 2) (j := 0) (by decide +kernel) rfl rfl rfl) ?_
          refine gm_sz (fw_gr (pc := 121) (ix := 9) (ci := 7) (j := 2) (r := 16) (by decide +kernel) (e0k hE (k := 213) (c := 7) (by decide +kernel)) (by decide +kernel) (by decide +kernel) (e0r hE (k := 213) (j := 2) (r := 16) (by decide +kernel))) ?_
          refine gm_sz (fw_gr (pc := 124) (ix := 146) (ci := 1) (j := 11) (r := 21) (by decide +kernel) (e0k hE (k := 16) (c := 1) (by decide +kernel)) (by decide +kernel) (by decide +kernel) (e0r hE (k := 16) (j := 11) (r := 21) (by decide +kernel))) ?_
          refine gm_sz (gm_p_load (pc := 127) (i := .iload 4) (sr := 0) (j := 4) (by decide +kernel) rfl rfl rfl) ?_
          refine gm_sz (gm_p_const (pc := 129) (i := .iconst 2) (v := gm_vi 2) (by decide +kernel) (by decide +kernel)) ?_
          refine gm_sz (gm_p_load (pc := 130) (i := .iload_n 3) (sr := 0) (j := 3) (by decide +kernel) rfl rfl rfl) ?_
          refine gm_c_virt (k := 21) (ci := 2) (mj := 45) (ix := 120) (pc := 131) (as := [gm_vi (N 3), gm_vi 2, gm_vi (-1)]) (st := []) (d' := d - 1) (bc' := 0) (bs' := 0) (by decide +kernel) (by decide +kernel) (by decide +kernel) (by decide +kernel) (e0k hE (k := 21) (c := 2) (by decide +kernel)).1 (e0k hE (k := 21) (c := 2) (by decide +kernel)).2 (by decide) (by decide +kernel) (show 3 = gm_na 45 by decide +kernel) (fw_c3 fw_si fw_si fw_si) (show 4 ≤ gm_ml 45 by decide +kernel) (Nat.le_of_ble_eq_true rfl) (by omega) (Nat.zero_le _) (Nat.zero_le _) ?_
          refine rw_put (s := (N 3) + 1) (w := 3) (e0k hE (k := 21) (c := 2) (by decide +kernel)) (e0a hE (k := 22) (q := ((0 : Nat), (24 : Nat))) (by decide +kernel)) (e0r hE (k := 21) (j := 2) (r := 22) (by decide +kernel)) (by decide) ((uM_ne (by omega)).trans ((uM_ne (by omega)).trans uM_at)) ((uM_ne (by omega)).trans ((uM_ne (by omega)).trans ((uM_ne (by omega)).trans ((fr_c hf62 (by decide)).trans ((fr_c hf43 (by decide)).trans ((fr_c hf29 (by decide)).trans ((fr_c hf25 (by decide)).trans (hC (21, 1, 3) (by decide))))))))) ⟨by omega, by omega⟩ ⟨by omega, by omega⟩ ⟨by omega, by omega⟩ ⟨by omega, by omega⟩ ?_
          show gm_Wp X LX d _ _ 116 134 _ [] n K _ _ Q
          refine gm_sz (gm_p_const (pc := 134) (i := .iconst 1) (v := gm_vi 1) (by decide +kernel) (by decide +kernel)) ?_
          have ev : v_person f e N b = (true, (tx_n f e (tx_n f e (tx_n f e b))), (nup (nup (nup (nup N 3 ((N 3) + 1)) (95 + ((N 3) * 3 + 0)) (tx_v f e 4 (tx_n f e b))) (95 + ((N 3) * 3 + 1)) (tx_v f e 4 (tx_n f e (tx_n f e b)))) (95 + ((N 3) * 3 + 2)) (-1))) := by
            unfold v_person
            rw [tif_f (show ¬ N 3 = 8 by omega), tif_t h29, tif_t h43, tif_f h62]
            first | done | rfl
          rw [ev] at q1
          exact gm_r_int (pc := 135) (by decide +kernel) (Or.inr ⟨(by decide +kernel), Or.inr rfl⟩) (q1 _ (fr_p (fr_p (fr_p (fr_p (fr_t (fr_t (fr_t (fr_t fr_0 hf25 (by decide)) hf29 (by decide)) hf43 (by decide)) hf62 (by decide)) (Or.inr (by decide))) (Or.inl (by decide))) (Or.inl (by decide))) (Or.inl (by decide))) (cst_fr (W := [((214 : Nat), some (3 : Int)), ((214 : Nat), some (4 : Int)), ((214 : Nat), some (5 : Int)), ((214 : Nat), some (6 : Int)), ((214 : Nat), some (7 : Int)), ((21 : Nat), some (3 : Int)), ((22 : Nat), none)]) hC (fr_p (fr_p (fr_p (fr_p (fr_t (fr_t (fr_t (fr_t fr_0 hf25 (by decide)) hf29 (by decide)) hf43 (by decide)) hf62 (by decide)) (Or.inr (by decide))) (Or.inl (by decide))) (Or.inl (by decide))) (Or.inl (by decide))) (by decide +kernel)) (vw_fr (W := [((21 : Nat), some (3 : Int)), ((22 : Nat), none)]) hv62 (fr_p (fr_p (fr_p (fr_p fr_0 (Or.inr (by decide))) (Or.inl (by decide))) (Or.inl (by decide))) (Or.inl (by decide))) (by decide)) ((cs_pP (b := 16) (by omega) (by omega)).trans (congrArg (fun V9 => nup V9 (95 + ((N 3) * 3 + 2)) (-1)) ((cs_pP (b := 16) (by omega) (by omega)).trans (congrArg (fun V9 => nup V9 (95 + ((N 3) * 3 + 1)) (tx_v f e 4 (tx_n f e (tx_n f e b)))) ((cs_pP (b := 16) (by omega) (by omega)).trans (congrArg (fun V9 => nup V9 (95 + ((N 3) * 3 + 0)) (tx_v f e 4 (tx_n f e b))) ((cs_f3 (b := 16)).trans (congrArg (fun V9 => nup V9 3 ((N 3) + 1)) ((cs_frd hf62 (by decide)).trans ((cs_frd hf43 (by decide)).trans ((cs_frd hf29 (by decide)).trans ((cs_frd hf25 (by decide)).trans (hT))))))))))))) rfl)
      · show gm_Wp X LX d _ _ 116 46 _ [gm_vi (-1)] n K _ _ Q
        have h43 : ¬ vn f e 0 ((N 1) - 1) (tx_n f e (tx_n f e b)) := h43
        refine gm_sz (gm_p_stor (pc := 46) (i := .istore_n 2) (sr := 0) (j := 2) (by decide +kernel) rfl (show 3 ≤ _ from Nat.le_of_ble_eq_true rfl) rfl) ?_
        refine gm_sz (gm_p_load (pc := 47) (i := .iload_n 2) (sr := 0) (j := 2) (by decide +kernel) rfl rfl rfl) ?_
        refine gm_sz (gm_p_const (pc := 48) (i := .iconst (-1)) (v := gm_vi (-1)) (by decide +kernel) (by decide +kernel)) ?_
        refine fw_icfd (cc := .ne) (pc := 49) (off := 5) (by decide +kernel) (by decide) ⟨by decide, by decide⟩ ⟨by decide, by decide⟩ (by decide) ?_
        refine gm_sz (gm_p_const (pc := 52) (i := .iconst 0) (v := gm_vi 0) (by decide +kernel) (by decide +kernel)) ?_
        have ev : v_person f e N b = (false, (tx_n f e (tx_n f e b)), N) := by
          unfold v_person
          rw [tif_f (show ¬ N 3 = 8 by omega), tif_t h29, tif_f h43]
          first | done | rfl
        rw [ev] at q0
        exact gm_r_int (pc := 53) (by decide +kernel) (Or.inr ⟨(by decide +kernel), Or.inl rfl⟩) (q0 _ (fr_t (fr_t (fr_t fr_0 hf25 (by decide)) hf29 (by decide)) hf43 (by decide)) (cst_fr (W := [((214 : Nat), some (3 : Int)), ((214 : Nat), some (4 : Int)), ((214 : Nat), some (5 : Int)), ((214 : Nat), some (6 : Int)), ((214 : Nat), some (7 : Int))]) hC (fr_t (fr_t (fr_t fr_0 hf25 (by decide)) hf29 (by decide)) hf43 (by decide)) (by decide +kernel)) hv43 (fun h => by cases h))
    · show gm_Wp X LX d _ _ 116 32 _ [gm_vi (-1)] n K _ _ Q
      have h29 : ¬ vn f e 0 ((N 0) - 1) (tx_n f e b) := h29
      refine gm_sz (gm_p_stor (pc := 32) (i := .istore_n 1) (sr := 0) (j := 1) (by decide +kernel) rfl (show 2 ≤ _ from Nat.le_of_ble_eq_true rfl) rfl) ?_
      refine gm_sz (gm_p_load (pc := 33) (i := .iload_n 1) (sr := 0) (j := 1) (by decide +kernel) rfl rfl rfl) ?_
      refine gm_sz (gm_p_const (pc := 34) (i := .iconst (-1)) (v := gm_vi (-1)) (by decide +kernel) (by decide +kernel)) ?_
      refine fw_icfd (cc := .ne) (pc := 35) (off := 7) (by decide +kernel) (by decide) ⟨by decide, by decide⟩ ⟨by decide, by decide⟩ (by decide) ?_
      refine gm_sz (gm_p_const (pc := 38) (i := .iconst (-1)) (v := gm_vi (-1)) (by decide +kernel) (by decide +kernel)) ?_
      refine gm_sz (gm_p_goto (pc := 39) (off := 7) (by decide +kernel) (by decide)) ?_
      refine gm_sz (gm_p_stor (pc := 46) (i := .istore_n 2) (sr := 0) (j := 2) (by decide +kernel) rfl (show 3 ≤ _ from Nat.le_of_ble_eq_true rfl) rfl) ?_
      refine gm_sz (gm_p_load (pc := 47) (i := .iload_n 2) (sr := 0) (j := 2) (by decide +kernel) rfl rfl rfl) ?_
      refine gm_sz (gm_p_const (pc := 48) (i := .iconst (-1)) (v := gm_vi (-1)) (by decide +kernel) (by decide +kernel)) ?_
      refine fw_icfd (cc := .ne) (pc := 49) (off := 5) (by decide +kernel) (by decide) ⟨by decide, by decide⟩ ⟨by decide, by decide⟩ (by decide) ?_
      refine gm_sz (gm_p_const (pc := 52) (i := .iconst 0) (v := gm_vi 0) (by decide +kernel) (by decide +kernel)) ?_
      have ev : v_person f e N b = (false, (tx_n f e b), N) := by
        unfold v_person
        rw [tif_f (show ¬ N 3 = 8 by omega), tif_f h29]
        first | done | rfl
      rw [ev] at q0
      exact gm_r_int (pc := 53) (by decide +kernel) (Or.inr ⟨(by decide +kernel), Or.inl rfl⟩) (q0 _ (fr_t (fr_t fr_0 hf25 (by decide)) hf29 (by decide)) (cst_fr (W := [((214 : Nat), some (3 : Int)), ((214 : Nat), some (4 : Int)), ((214 : Nat), some (5 : Int)), ((214 : Nat), some (6 : Int)), ((214 : Nat), some (7 : Int))]) hC (fr_t (fr_t fr_0 hf25 (by decide)) hf29 (by decide)) (by decide +kernel)) hv29 (fun h => by cases h))
theorem vy_118 (hd : 8 ≤ d) (hE : E0 n K R) (hC : CST M) (hF : VF f e) (hV : VW f e b (-1) M) (hb : 0 ≤ b ∧ b ≤ e) (hT : cs M 16 = N) (hN : NR N) (q1 : ∀ M2, fr [((214 : Nat), some (3 : Int)), ((214 : Nat), some (4 : Int)), ((214 : Nat), some (5 : Int)), ((214 : Nat), some (6 : Int)), ((214 : Nat), some (7 : Int)), ((16 : Nat), none), ((17 : Nat), some (3 : Int)), ((18 : Nat), none), ((19 : Nat), some (3 : Int)), ((20 : Nat), none), ((21 : Nat), some (3 : Int)), ((22 : Nat), none), ((23 : Nat), some (3 : Int)), ((24 : Nat), none), ((25 : Nat), some (3 : Int)), ((26 : Nat), none)] M M2 → CST M2 → VW f e (v_rock f e N b).2.1 (-1) M2 → cs M2 16 = (v_rock f e N b).2.2 → (v_rock f e N b).1 = true → Q (.inl (some (gm_vi 1))) n K R M2) (q0 : ∀ M2, fr [((214 : Nat), some (3 : Int)), ((214 : Nat), some (4 : Int)), ((214 : Nat), some (5 : Int)), ((214 : Nat), some (6 : Int)), ((214 : Nat), some (7 : Int)), ((16 : Nat), none), ((17 : Nat), some (3 : Int)), ((18 : Nat), none), ((19 : Nat), some (3 : Int)), ((20 : Nat), none), ((21 : Nat), some (3 : Int)), ((22 : Nat), none), ((23 : Nat), some (3 : Int)), ((24 : Nat), none), ((25 : Nat), some (3 : Int)), ((26 : Nat), none)] M M2 → CST M2 → VW f e (v_rock f e N b).2.1 (v_rock f e N b).2.1 M2 → ¬ (v_rock f e N b).1 = true → Q (.inl (some (gm_vi 0))) n K R M2) : gm_Wp X LX d bc bs 118 0 (gm_ent 118 [gm_vr 213]) [] n K R M Q := by
  obtain ⟨⟨⟨a0, b0⟩, ⟨a1, b1⟩, ⟨a10, b10⟩, ⟨a11, b11⟩, ⟨a12, b12⟩, a9, b9⟩, ⟨⟨a2, b2⟩, ⟨a5, b5⟩, ⟨a3, b3⟩, ⟨a4, b4⟩, ⟨a6, b6⟩, ⟨a14, b14⟩, ⟨a7, b7⟩, a13, b13⟩, rF, rP, rL⟩ := id hN
  refine gm_sz (gm_p_load (pc := 0) (i := .aload_n 0) (sr := 2) (j := 0) (by decide +kernel) rfl rfl rfl) ?_
  refine gm_sz (fw_gr (pc := 1) (ix := 9) (ci := 7) (j := 2) (r := 16) (by decide +kernel) (e0k hE (k := 213) (c := 7) (by decide +kernel)) (by decide +kernel) (by decide +kernel) (e0r hE (k := 213) (j := 2) (r := 16) (by decide +kernel))) ?_
  refine gm_sz (fw_gr (pc := 4) (ix := 157) (ci := 1) (j := 12) (r := 23) (by decide +kernel) (e0k hE (k := 16) (c := 1) (by decide +kernel)) (by decide +kernel) (by decide +kernel) (e0r hE (k := 16) (j := 12) (r := 23) (by decide +kernel))) ?_
  refine gm_c_virt (k := 23) (ci := 2) (mj := 108) (ix := 105) (pc := 7) (as := []) (st := []) (d' := d - 1) (bc' := 0) (bs' := 0) (by decide +kernel) (by decide +kernel) (by decide +kernel) (by decide +kernel) (e0k hE (k := 23) (c := 2) (by decide +kernel)).1 (e0k hE (k := 23) (c := 2) (by decide +kernel)).2 (by decide) (by decide +kernel) (show 0 = gm_na 108 by decide +kernel) fw_c0 (show 1 ≤ gm_ml 108 by decide +kernel) (Nat.le_of_ble_eq_true rfl) (by omega) (Nat.zero_le _) (Nat.zero_le _) ?_
  refine rw_full (s := (N 4)) (m := 24) (e0k hE (k := 23) (c := 2) (by decide +kernel)) (dr_4 hT) (hC (23, 0, 24) (by decide)) ⟨⟨by omega, by omega⟩, ⟨by decide, by decide⟩⟩ (fun f7 => ?_) (fun f7 => ?_)
  · show gm_Wp X LX d _ _ 118 10 _ [gm_vi 1] n K _ _ Q
    have f7 : 24 ≤ (N 4) := f7
    refine fw_iffd (cc := .eq) (pc := 10) (off := 11) (by decide +kernel) (by decide) ⟨by decide, by decide⟩ (by decide) ?_
    refine gm_sz (gm_p_load (pc := 13) (i := .aload_n 0) (sr := 2) (j := 0) (by decide +kernel) rfl rfl rfl) ?_
    refine gm_sz (fw_gr (pc := 14) (ix := 15) (ci := 7) (j := 0) (r := 214) (by decide +kernel) (e0k hE (k := 213) (c := 7) (by decide +kernel)) (by decide +kernel) (by decide +kernel) (e0r hE (k := 213) (j := 0) (r := 214) (by decide +kernel))) ?_
    refine gm_c_virt (k := 214) (ci := 8) (mj := 93) (ix := 76) (pc := 17) (as := []) (st := []) (d' := d - 1) (bc' := 0) (bs' := 0) (by decide +kernel) (by decide +kernel) (by decide +kernel) (by decide +kernel) (e0k hE (k := 214) (c := 8) (by decide +kernel)).1 (e0k hE (k := 214) (c := 8) (by decide +kernel)).2 (by decide) (by decide +kernel) (show 0 = gm_na 93 by decide +kernel) fw_c0 (show 1 ≤ gm_ml 93 by decide +kernel) (Nat.le_of_ble_eq_true rfl) (by omega) (Nat.zero_le _) (Nat.zero_le _) ?_
    refine vw_93 hE hF hV hb (fun M17 hf17 hv17 => ?_)
    show gm_Wp X LX d _ _ 118 20 _ [gm_vi 0] n K _ _ Q
    have ev : v_rock f e N b = (false, b, N) := by
      unfold v_rock
      rw [tif_t (show N 4 = 24 by omega)]
      first | done | rfl
    rw [ev] at q0
    exact gm_r_int (pc := 20) (by decide +kernel) (Or.inr ⟨(by decide +kernel), Or.inl rfl⟩) (q0 _ (fr_t fr_0 hf17 (by decide)) (cst_fr (W := [((214 : Nat), some (3 : Int)), ((214 : Nat), some (4 : Int)), ((214 : Nat), some (5 : Int)), ((214 : Nat), some (6 : Int)), ((214 : Nat), some (7 : Int))]) hC (fr_t fr_0 hf17 (by decide)) (by decide +kernel)) hv17 (fun h => by cases h))
  · show gm_Wp X LX d _ _ 118 10 _ [gm_vi 0] n K _ _ Q
    have f7 : (N 4) < 24 := f7
    refine fw_iftd (cc := .eq) (pc := 10) (off := 11) (by decide +kernel) (by decide) ⟨by decide, by decide⟩ (by decide) ?_
    refine gm_sz (gm_p_load (pc := 21) (i := .aload_n 0) (sr := 2) (j := 0) (by decide +kernel) rfl rfl rfl) ?_
    refine gm_sz (fw_gr (pc := 22) (ix := 15) (ci := 7) (j := 0) (r := 214) (by decide +kernel) (e0k hE (k := 213) (c := 7) (by decide +kernel)) (by decide +kernel) (by decide +kernel) (e0r hE (k := 213) (j := 0) (r := 214) (by decide +kernel))) ?_
    refine gm_c_virt (k := 214) (ci := 8) (mj := 76) (ix := 84) (pc := 25) (as := []) (st := []) (d' := d - 1) (bc' := 0) (bs' := 0) (by decide +kernel) (by decide +kernel) (by decide +kernel) (by decide +kernel) (e0k hE (k := 214) (c := 8) (by decide +kernel)).1 (e0k hE (k := 214) (c := 8) (by decide +kernel)).2 (by decide) (by decide +kernel) (show 0 = gm_na 76 by decide +kernel) fw_c0 (show 1 ≤ gm_ml 76 by decide +kernel) (Nat.le_of_ble_eq_true rfl) (by omega) (Nat.zero_le _) (Nat.zero_le _) ?_
    refine vw_76 (by omega) hE hF hV hb (fun M25 hf25 hv25 => ?_)
    show gm_Wp X LX d _ _ 118 28 _ [] n K _ _ Q
    have hb25 := tx_nb (f := f) (e := e) (b := b) hb.2
    have hb25 : 0 ≤ tx_n f e b ∧ tx_n f e b ≤ e := ⟨by have := hb.1; omega, hb25.2.1⟩
    refine gm_sz (gm_p_load (pc := 28) (i := .aload_n 0) (sr := 2) (j := 0) (by decide +kernel) rfl rfl rfl) ?_
    refine gm_c_virt (k := 213) (ci := 7) (mj := 117) (ix := 149) (pc := 29) (as := []) (st := []) (d' := d - 1) (bc' := 0) (bs' := 0) (by decide +kernel) (by decide +kernel) (by decide +kernel) (by decide +kernel) (e0k hE (k := 213) (c := 7) (by decide +kernel)).1 (e0k hE (k := 213) (c := 7) (by decide +kernel)).2 (by decide) (by decide +kernel) (show 0 = gm_na 117 by decide +kernel) fw_c0 (show 1 ≤ gm_ml 117 by decide +kernel) (Nat.le_of_ble_eq_true rfl) (by omega) (Nat.zero_le _) (Nat.zero_le _) ?_
    refine vy_117 (by omega) hE (cst_fr (W := [((214 : Nat), some (3 : Int)), ((214 : Nat), some (4 : Int)), ((214 : Nat), some (5 : Int)), ((214 : Nat), some (6 : Int)), ((214 : Nat), some (7 : Int))]) hC (fr_t fr_0 hf25 (by decide)) (by decide +kernel)) hF hv25 hb25 ((cs_frd hf25 (by decide)).trans (hT)) hN (fun h29 M29 hf29 hv29 => ?_) (fun h29 M29 hf29 hv29 => ?_)
    · show gm_Wp X LX d _ _ 118 32 _ [gm_vi (tx_v f e 4 (tx_n f e b))] n K _ _ Q
      have h29 : vn f e 0 ((N 0) - 1) (tx_n f e b) := h29
      have hr29 : 0 ≤ tx_v f e 4 (tx_n f e b) ∧ tx_v f e 4 (tx_n f e b) ≤ (N 0) - 1 := h29.2
      have hb29 := tx_nb (f := f) (e := e) (b := (tx_n f e b)) hb25.2
      have hb29 : 0 ≤ tx_n f e (tx_n f e b) ∧ tx_n f e (tx_n f e b) ≤ e := ⟨by have := hb25.1; omega, hb29.2.1⟩
      refine gm_sz (gm_p_stor (pc := 32) (i := .istore_n 1) (sr := 0) (j := 1) (by decide +kernel) rfl (show 2 ≤ _ from Nat.le_of_ble_eq_true rfl) rfl) ?_
      refine gm_sz (gm_p_load (pc := 33) (i := .iload_n 1) (sr := 0) (j := 1) (by decide +kernel) rfl rfl rfl) ?_
      refine gm_sz (gm_p_const (pc := 34) (i := .iconst (-1)) (v := gm_vi (-1)) (by decide +kernel) (by decide +kernel)) ?_
      refine fw_ict (cc := .ne) (pc := 35) (off := 7) (by decide +kernel) (by decide) ⟨by omega, by omega⟩ ⟨by decide, by decide⟩ (show ¬ (tx_v f e 4 (tx_n f e b)) = (-1) by omega) ?_
      refine gm_sz (gm_p_load (pc := 42) (i := .aload_n 0) (sr := 2) (j := 0) (by decide +kernel) rfl rfl rfl) ?_
      refine gm_c_virt (k := 213) (ci := 7) (mj := 111) (ix := 128) (pc := 43) (as := []) (st := []) (d' := d - 1) (bc' := 0) (bs' := 0) (by decide +kernel) (by decide +kernel) (by decide +kernel) (by decide +kernel) (e0k hE (k := 213) (c := 7) (by decide +kernel)).1 (e0k hE (k := 213) (c := 7) (by decide +kernel)).2 (by decide) (by decide +kernel) (show 0 = gm_na 111 by decide +kernel) fw_c0 (show 1 ≤ gm_ml 111 by decide +kernel) (Nat.le_of_ble_eq_true rfl) (by omega) (Nat.zero_le _) (Nat.zero_le _) ?_
      refine vy_111 (by omega) hE (cst_fr (W := [((214 : Nat), some (3 : Int)), ((214 : Nat), some (4 : Int)), ((214 : Nat), some (5 : Int)), ((214 : Nat), some (6 : Int)), ((214 : Nat), some (7 : Int))]) hC (fr_t (fr_t fr_0 hf25 (by decide)) hf29 (by decide)) (by decide +kernel)) hF hv29 hb29 ((cs_frd hf29 (by decide)).trans ((cs_frd hf25 (by decide)).trans (hT))) hN (fun h43 M43 hf43 hv43 => ?_) (fun h43 M43 hf43 hv43 => ?_)
      · show gm_Wp X LX d _ _ 118 46 _ [gm_vi (tx_v f e 4 (tx_n f e (tx_n f e b)))] n K _ _ Q
        have h43 : vn f e 0 ((N 1) - 1) (tx_n f e (tx_n f e b)) := h43
        have hr43 : 0 ≤ tx_v f e 4 (tx_n f e (tx_n f e b)) ∧ tx_v f e 4 (tx_n f e (tx_n f e b)) ≤ (N 1) - 1 := h43.2
        have hb43 := tx_nb (f := f) (e := e) (b := (tx_n f e (tx_n f e b))) hb29.2
        have hb43 : 0 ≤ tx_n f e (tx_n f e (tx_n f e b)) ∧ tx_n f e (tx_n f e (tx_n f e b)) ≤ e := ⟨by have := hb29.1; omega, hb43.2.1⟩
        refine gm_sz (gm_p_stor (pc := 46) (i := .istore_n 2) (sr := 0) (j := 2) (by decide +kernel) rfl (show 3 ≤ _ from Nat.le_of_ble_eq_true rfl) rfl) ?_
        refine gm_sz (gm_p_load (pc := 47) (i := .iload_n 2) (sr := 0) (j := 2) (by decide +kernel) rfl rfl rfl) ?_
        refine gm_sz (gm_p_const (pc := 48) (i := .iconst (-1)) (v := gm_vi (-1)) (by decide +kernel) (by decide +kernel)) ?_
        refine fw_ict (cc := .ne) (pc := 49) (off := 5) (by decide +kernel) (by decide) ⟨by omega, by omega⟩ ⟨by decide, by decide⟩ (show ¬ (tx_v f e 4 (tx_n f e (tx_n f e b))) = (-1) by omega) ?_
        refine gm_sz (gm_p_load (pc := 54) (i := .aload_n 0) (sr := 2) (j := 0) (by decide +kernel) rfl rfl rfl) ?_
        refine gm_sz (fw_gr (pc := 55) (ix := 9) (ci := 7) (j := 2) (r := 16) (by decide +kernel) (e0k hE (k := 213) (c := 7) (by decide +kernel)) (by decide +kernel) (by decide +kernel) (e0r hE (k := 213) (j := 2) (r := 16) (by decide +kernel))) ?_
        refine gm_sz (gm_p_const (pc := 58) (i := .iconst (-1)) (v := gm_vi (-1)) (by decide +kernel) (by decide +kernel)) ?_
        refine gm_sz (gm_p_const (pc := 59) (i := .iconst (-1)) (v := gm_vi (-1)) (by decide +kernel) (by decide +kernel)) ?_
        refine gm_sz (gm_p_load (pc := 60) (i := .iload_n 1) (sr := 0) (j := 1) (by decide +kernel) rfl rfl rfl) ?_
        refine gm_sz (gm_p_load (pc := 61) (i := .iload_n 2) (sr := 0) (j := 2) (by decide +kernel) rfl rfl rfl) ?_
        refine gm_c_virt (k := 16) (ci := 1) (mj := 119) (ix := 160) (pc := 62) (as := [gm_vi (-1), gm_vi (-1), gm_vi (tx_v f e 4 (tx_n f e b)), gm_vi (tx_v f e 4 (tx_n f e (tx_n f e b)))]) (st := []) (d' := d - 1) (bc' := 0) (bs' := 0) (by decide +kernel) (by decide +kernel) (by decide +kernel) (by decide +kernel) (e0k hE (k := 16) (c := 1) (by decide +kernel)).1 (e0k hE (k := 16) (c := 1) (by decide +kernel)).2 (by decide) (by decide +kernel) (show 4 = gm_na 119 by decide +kernel) (fw_c4 fw_si fw_si fw_si fw_si) (show 5 ≤ gm_ml 119 by decide +kernel) (Nat.le_of_ble_eq_true rfl) (by omega) (Nat.zero_le _) (Nat.zero_le _) ?_
        refine cs_thr16 (by omega) hE (cst_fr (W := [((214 : Nat), some (3 : Int)), ((214 : Nat), some (4 : Int)), ((214 : Nat), some (5 : Int)), ((214 : Nat), some (6 : Int)), ((214 : Nat), some (7 : Int))]) hC (fr_t (fr_t (fr_t fr_0 hf25 (by decide)) hf29 (by decide)) hf43 (by decide)) (by decide +kernel)) (by rw [((fr_c hf43 (by decide)).trans ((fr_c hf29 (by decide)).trans ((fr_c hf25 (by decide)).trans (dr_4 hT))))]; exact ⟨by omega, by omega⟩) ?_
        show gm_Wp X LX d _ _ 118 65 _ [gm_vi (M43 23 3)] n K _ _ Q
        refine gm_sz (gm_p_pop (pc := 65) (by decide +kernel) fw_si) ?_
        refine gm_sz (gm_p_const (pc := 66) (i := .iconst 1) (v := gm_vi 1) (by decide +kernel) (by decide +kernel)) ?_
        have ev : v_rock f e N b = (true, (tx_n f e (tx_n f e (tx_n f e b))), (nthr N (-1) (-1) (tx_v f e 4 (tx_n f e b)) (tx_v f e 4 (tx_n f e (tx_n f e b))))) := by
          unfold v_rock
          rw [tif_f (show ¬ N 4 = 24 by omega), tif_t h29, tif_t h43]
          first | done | rfl
        rw [ev] at q1
        exact gm_r_int (pc := 67) (by decide +kernel) (Or.inr ⟨(by decide +kernel), Or.inr rfl⟩) (q1 _ (fr_t (fr_t (fr_t (fr_t fr_0 hf25 (by decide)) hf29 (by decide)) hf43 (by decide)) cs_th16_fr (by decide)) (cst_fr (W := [((214 : Nat), some (3 : Int)), ((214 : Nat), some (4 : Int)), ((214 : Nat), some (5 : Int)), ((214 : Nat), some (6 : Int)), ((214 : Nat), some (7 : Int)), ((23 : Nat), some (3 : Int)), ((24 : Nat), none)]) hC (fr_t (fr_t (fr_t (fr_t fr_0 hf25 (by decide)) hf29 (by decide)) hf43 (by decide)) cs_th16_fr (by decide)) (by decide +kernel)) (vw_fr (W := [((23 : Nat), some (3 : Int)), ((24 : Nat), none)]) hv43 (fr_t fr_0 cs_th16_fr (by decide)) (by decide)) (cs_th16_n ((cs_frd hf43 (by decide)).trans ((cs_frd hf29 (by decide)).trans ((cs_frd hf25 (by decide)).trans (hT)))) ⟨by omega, by omega⟩) rfl)
      · show gm_Wp X LX d _ _ 118 46 _ [gm_vi (-1)] n K _ _ Q
        have h43 : ¬ vn f e 0 ((N 1) - 1) (tx_n f e (tx_n f e b)) := h43
        refine gm_sz (gm_p_stor (pc := 46) (i := .istore_n 2) (sr := 0) (j := 2) (by decide +kernel) rfl (show 3 ≤ _ from Nat.le_of_ble_eq_true rfl) rfl) ?_
        refine gm_sz (gm_p_load (pc := 47) (i := .iload_n 2) (sr := 0) (j := 2) (by decide +kernel) rfl rfl rfl) ?_
        refine gm_sz (gm_p_const (pc := 48) (i := .iconst (-1)) (v := gm_vi (-1)) (by decide +kernel) (by decide +kernel)) ?_
        refine fw_icfd (cc := .ne) (pc := 49) (off := 5) (by decide +kernel) (by decide) ⟨by decide, by decide⟩ ⟨by decide, by decide⟩ (by decide) ?_
        refine gm_sz (gm_p_const (pc := 52) (i := .iconst 0) (v := gm_vi 0) (by decide +kernel) (by decide +kernel)) ?_
        have ev : v_rock f e N b = (false, (tx_n f e (tx_n f e b)), N) := by
          unfold v_rock
          rw [tif_f (show ¬ N 4 = 24 by omega), tif_t h29, tif_f h43]
          first | done | rfl
        rw [ev] at q0
        exact gm_r_int (pc := 53) (by decide +kernel) (Or.inr ⟨(by decide +kernel), Or.inl rfl⟩) (q0 _ (fr_t (fr_t (fr_t fr_0 hf25 (by decide)) hf29 (by decide)) hf43 (by decide)) (cst_fr (W := [((214 : Nat), some (3 : Int)), ((214 : Nat), some (4 : Int)), ((214 : Nat), some (5 : Int)), ((214 : Nat), some (6 : Int)), ((214 : Nat), some (7 : Int))]) hC (fr_t (fr_t (fr_t fr_0 hf25 (by decide)) hf29 (by decide)) hf43 (by decide)) (by decide +kernel)) hv43 (fun h => by cases h))
    · show gm_Wp X LX d _ _ 118 32 _ [gm_vi (-1)] n K _ _ Q
      have h29 : ¬ vn f e 0 ((N 0) - 1) (tx_n f e b) := h29
      refine gm_sz (gm_p_stor (pc := 32) (i := .istore_n 1) (sr := 0) (j := 1) (by decide +kernel) rfl (show 2 ≤ _ from Nat.le_of_ble_eq_true rfl) rfl) ?_
      refine gm_sz (gm_p_load (pc := 33) (i := .iload_n 1) (sr := 0) (j := 1) (by decide +kernel) rfl rfl rfl) ?_
      refine gm_sz (gm_p_const (pc := 34) (i := .iconst (-1)) (v := gm_vi (-1)) (by decide +kernel) (by decide +kernel)) ?_
      refine fw_icfd (cc := .ne) (pc := 35) (off := 7) (by decide +kernel) (by decide) ⟨by decide, by decide⟩ ⟨by decide, by decide⟩ (by decide) ?_
      refine gm_sz (gm_p_const (pc := 38) (i := .iconst (-1)) (v := gm_vi (-1)) (by decide +kernel) (by decide +kernel)) ?_
      refine gm_sz (gm_p_goto (pc := 39) (off := 7) (by decide +kernel) (by decide)) ?_
      refine gm_sz (gm_p_stor (pc := 46) (i := .istore_n 2) (sr := 0) (j := 2) (by decide +kernel) rfl (show 3 ≤ _ from Nat.le_of_ble_eq_true rfl) rfl) ?_
      refine gm_sz (gm_p_load (pc := 47) (i := .iload_n 2) (sr := 0) (j := 2) (by decide +kernel) rfl rfl rfl) ?_
      refine gm_sz (gm_p_const (pc := 48) (i := .iconst (-1)) (v := gm_vi (-1)) (by decide +kernel) (by decide +kernel)) ?_
      refine fw_icfd (cc := .ne) (pc := 49) (off := 5) (by decide +kernel) (by decide) ⟨by decide, by decide⟩ ⟨by decide, by decide⟩ (by decide) ?_
      refine gm_sz (gm_p_const (pc := 52) (i := .iconst 0) (v := gm_vi 0) (by decide +kernel) (by decide +kernel)) ?_
      have ev : v_rock f e N b = (false, (tx_n f e b), N) := by
        unfold v_rock
        rw [tif_f (show ¬ N 4 = 24 by omega), tif_f h29]
        first | done | rfl
      rw [ev] at q0
      exact gm_r_int (pc := 53) (by decide +kernel) (Or.inr ⟨(by decide +kernel), Or.inl rfl⟩) (q0 _ (fr_t (fr_t fr_0 hf25 (by decide)) hf29 (by decide)) (cst_fr (W := [((214 : Nat), some (3 : Int)), ((214 : Nat), some (4 : Int)), ((214 : Nat), some (5 : Int)), ((214 : Nat), some (6 : Int)), ((214 : Nat), some (7 : Int))]) hC (fr_t (fr_t fr_0 hf25 (by decide)) hf29 (by decide)) (by decide +kernel)) hv29 (fun h => by cases h))
theorem vy_109_17 (hd : 3 ≤ d) (hE : E0 n K R) (hF : VF f e) {r : Int} (hr : 0 ≤ r ∧ r < 8) : ∀ (t : Nat) (lane b : Int) (N : Int → Int) (M : gm_M) (z : Option gm_V), lane + t = N 0 → 0 ≤ lane → N 0 ≤ 6 → N 2 = r + 1 → CST M → VW f e b (-1) M → 0 ≤ b ∧ b ≤ e → cs M 16 = N → (∀ M2, fr [((214 : Nat), some (3 : Int)), ((214 : Nat), some (4 : Int)), ((214 : Nat), some (5 : Int)), ((214 : Nat), some (6 : Int)), ((214 : Nat), some (7 : Int)), ((16 : Nat), none), ((17 : Nat), some (3 : Int)), ((18 : Nat), none), ((19 : Nat), some (3 : Int)), ((20 : Nat), none), ((21 : Nat), some (3 : Int)), ((22 : Nat), none), ((23 : Nat), some (3 : Int)), ((24 : Nat), none), ((25 : Nat), some (3 : Int)), ((26 : Nat), none)] M M2 → CST M2 → VW f e (v_sp f e t N (15 + (r * 7 + (1 + lane))) b).2.1 (-1) M2 → cs M2 16 = (v_sp f e t N (15 + (r * 7 + (1 + lane))) b).2.2 → (v_sp f e t N (15 + (r * 7 + (1 + lane))) b).1 = true → Q (.inl (some (gm_vi 1))) n K R M2) → (∀ M2, fr [((214 : Nat), some (3 : Int)), ((214 : Nat), some (4 : Int)), ((214 : Nat), some (5 : Int)), ((214 : Nat), some (6 : Int)), ((214 : Nat), some (7 : Int)), ((16 : Nat), none), ((17 : Nat), some (3 : Int)), ((18 : Nat), none), ((19 : Nat), some (3 : Int)), ((20 : Nat), none), ((21 : Nat), some (3 : Int)), ((22 : Nat), none), ((23 : Nat), some (3 : Int)), ((24 : Nat), none), ((25 : Nat), some (3 : Int)), ((26 : Nat), none)] M M2 → CST M2 → VW f e (v_sp f e t N (15 + (r * 7 + (1 + lane))) b).2.1 (v_sp f e t N (15 + (r * 7 + (1 + lane))) b).2.1 M2 → ¬ (v_sp f e t N (15 + (r * 7 + (1 + lane))) b).1 = true → Q (.inl (some (gm_vi 0))) n K R M2) → gm_Wp X LX d bc bs 109 3 [some (gm_vr 213), some (gm_vr 17), some (gm_vi r), some (gm_vi 1), some (gm_vi lane), z] [] n K R M Q := by
  intro t
  induction t with
  | zero =>
    intro lane b N M z hl h0 h6 hs hC hV hb hT q1 q0
    refine gm_sz (gm_p_load (pc := 3) (i := .iload 4) (sr := 0) (j := 4) (by decide +kernel) rfl rfl rfl) ?_
    refine gm_sz (gm_p_load (pc := 5) (i := .aload_n 0) (sr := 2) (j := 0) (by decide +kernel) rfl rfl rfl) ?_
    refine gm_sz (fw_gr (pc := 6) (ix := 9) (ci := 7) (j := 2) (r := 16) (by decide +kernel) (e0k hE (k := 213) (c := 7) (by decide +kernel)) (by decide +kernel) (by decide +kernel) (e0r hE (k := 213) (j := 2) (r := 16) (by decide +kernel))) ?_
    refine gm_sz (fw_gi (pc := 9) (ix := 92) (ci := 1) (j := 0) (x := (N 0)) (by decide +kernel) (e0k hE (k := 16) (c := 1) (by decide +kernel)) (by decide +kernel) (by decide +kernel) (dr_0 hT)) ?_
    refine fw_ict (cc := .ge) (pc := 12) (off := 40) (by decide +kernel) (by decide) ⟨by omega, by omega⟩ ⟨by omega, by omega⟩ (show (N 0) ≤ lane by omega) ?_
    refine gm_sz (gm_p_const (pc := 52) (i := .iconst 1) (v := gm_vi 1) (by decide +kernel) (by decide +kernel)) ?_
    exact gm_r_int (pc := 53) (by decide +kernel) (Or.inr ⟨(by decide +kernel), Or.inr rfl⟩) (q1 _ fr_0 hC hV (hT.trans (show N = _ from rfl)) rfl)
  | succ t ih =>
    intro lane b N M z hl h0 h6 hs hC hV hb hT q1 q0
    refine gm_sz (gm_p_load (pc := 3) (i := .iload 4) (sr := 0) (j := 4) (by decide +kernel) rfl rfl rfl) ?_
    refine gm_sz (gm_p_load (pc := 5) (i := .aload_n 0) (sr := 2) (j := 0) (by decide +kernel) rfl rfl rfl) ?_
    refine gm_sz (fw_gr (pc := 6) (ix := 9) (ci := 7) (j := 2) (r := 16) (by decide +kernel) (e0k hE (k := 213) (c := 7) (by decide +kernel)) (by decide +kernel) (by decide +kernel) (e0r hE (k := 213) (j := 2) (r := 16) (by decide +kernel))) ?_
    refine gm_sz (fw_gi (pc := 9) (ix := 92) (ci := 1) (j := 0) (x := (N 0)) (by decide +kernel) (e0k hE (k := 16) (c := 1) (by decide +kernel)) (by decide +kernel) (by decide +kernel) (dr_0 hT)) ?_
    refine fw_icf (cc := .ge) (pc := 12) (off := 40) (by decide +kernel) (by decide) ⟨by omega, by omega⟩ ⟨by omega, by omega⟩ (show ¬ (N 0) ≤ lane by omega) ?_
    refine gm_sz (gm_p_load (pc := 15) (i := .aload_n 0) (sr := 2) (j := 0) (by decide +kernel) rfl rfl rfl) ?_
    refine gm_sz (fw_gr (pc := 16) (ix := 15) (ci := 7) (j := 0) (r := 214) (by decide +kernel) (e0k hE (k := 213) (c := 7) (by decide +kernel)) (by decide +kernel) (by decide +kernel) (e0r hE (k := 213) (j := 0) (r := 214) (by decide +kernel))) ?_
    refine gm_sz (gm_p_const (pc := 19) (i := .iconst 0) (v := gm_vi 0) (by decide +kernel) (by decide +kernel)) ?_
    refine gm_sz (gm_p_const (pc := 20) (i := .bipush 20) (v := gm_vi 20) (by decide +kernel) (by decide +kernel)) ?_
    refine gm_c_virt (k := 214) (ci := 8) (mj := 94) (ix := 88) (pc := 22) (as := [gm_vi 0, gm_vi 20]) (st := []) (d' := d - 1) (bc' := 0) (bs' := 0) (by decide +kernel) (by decide +kernel) (by decide +kernel) (by decide +kernel) (e0k hE (k := 214) (c := 8) (by decide +kernel)).1 (e0k hE (k := 214) (c := 8) (by decide +kernel)).2 (by decide) (by decide +kernel) (show 2 = gm_na 94 by decide +kernel) (fw_c2 fw_si fw_si) (show 3 ≤ gm_ml 94 by decide +kernel) (Nat.le_of_ble_eq_true rfl) (by omega) (Nat.zero_le _) (Nat.zero_le _) ?_
    refine vw_94 (by omega) hE hF hV ⟨by decide, by decide⟩ ⟨by decide, by decide⟩ hb (fun h22 M22 hf22 hv22 => ?_) (fun h22 M22 hf22 hv22 => ?_)
    · show gm_Wp X LX d _ _ 109 25 _ [gm_vi (tx_v f e 4 b)] n K _ _ Q
      have h22 : vn f e 0 20 b := h22
      have hr22 : 0 ≤ tx_v f e 4 b ∧ tx_v f e 4 b ≤ 20 := h22.2
      have hb22 := tx_nb (f := f) (e := e) (b := b) hb.2
      have hb22 : 0 ≤ tx_n f e b ∧ tx_n f e b ≤ e := ⟨by have := hb.1; omega, hb22.2.1⟩
      refine gm_sz (gm_p_stor (pc := 25) (i := .istore 5) (sr := 0) (j := 5) (by decide +kernel) rfl (show 6 ≤ _ from Nat.le_of_ble_eq_true rfl) rfl) ?_
      refine gm_sz (gm_p_load (pc := 27) (i := .iload 5) (sr := 0) (j := 5) (by decide +kernel) rfl rfl rfl) ?_
      refine gm_sz (gm_p_const (pc := 29) (i := .iconst (-1)) (v := gm_vi (-1)) (by decide +kernel) (by decide +kernel)) ?_
      refine fw_ict (cc := .ne) (pc := 30) (off := 5) (by decide +kernel) (by decide) ⟨by omega, by omega⟩ ⟨by decide, by decide⟩ (show ¬ (tx_v f e 4 b) = (-1) by omega) ?_
      refine gm_sz (gm_p_load (pc := 35) (i := .aload_n 1) (sr := 2) (j := 1) (by decide +kernel) rfl rfl rfl) ?_
      refine gm_sz (gm_p_load (pc := 36) (i := .iload_n 2) (sr := 0) (j := 2) (by decide +kernel) rfl rfl rfl) ?_
      refine gm_sz (gm_p_load (pc := 37) (i := .iload_n 3) (sr := 0) (j := 3) (by decide +kernel) rfl rfl rfl) ?_
      refine gm_sz (gm_p_load (pc := 38) (i := .iload 4) (sr := 0) (j := 4) (by decide +kernel) rfl rfl rfl) ?_
      refine gm_sz (gm_p_bin (pc := 40) (i := .iadd) (f := fun x y => x + y) (by decide +kernel) rfl) ?_
      refine gm_sz (gm_p_load (pc := 41) (i := .iload 5) (sr := 0) (j := 5) (by decide +kernel) rfl rfl rfl) ?_
      refine gm_c_virt (k := 17) (ci := 2) (mj := 45) (ix := 120) (pc := 43) (as := [gm_vi r, gm_vi (1 + lane), gm_vi (tx_v f e 4 b)]) (st := []) (d' := d - 1) (bc' := 0) (bs' := 0) (by decide +kernel) (by decide +kernel) (by decide +kernel) (by decide +kernel) (e0k hE (k := 17) (c := 2) (by decide +kernel)).1 (e0k hE (k := 17) (c := 2) (by decide +kernel)).2 (by decide) (by decide +kernel) (show 3 = gm_na 45 by decide +kernel) (fw_c3 fw_si fw_si fw_si) (show 4 ≤ gm_ml 45 by decide +kernel) (Nat.le_of_ble_eq_true rfl) (by omega) (Nat.zero_le _) (Nat.zero_le _) ?_
      refine rw_put (s := (N 2)) (w := 7) (e0k hE (k := 17) (c := 2) (by decide +kernel)) (e0a hE (k := 18) (q := ((0 : Nat), (56 : Nat))) (by decide +kernel)) (e0r hE (k := 17) (j := 2) (r := 18) (by decide +kernel)) (by decide) ((fr_c hf22 (by decide)).trans (dr_2 hT)) ((fr_c hf22 (by decide)).trans (hC (17, 1, 7) (by decide))) ⟨by omega, by omega⟩ ⟨by omega, by omega⟩ ⟨by omega, by omega⟩ ⟨by omega, by omega⟩ ?_
      show gm_Wp X LX d _ _ 109 46 _ [] n K _ _ Q
      refine gm_sz (gm_p_iinc (pc := 46) (j := 4) (z := 1) (by decide +kernel) rfl) ?_
      refine gm_sz (gm_p_goto (pc := 49) (off := (-46)) (by decide +kernel) (by decide)) ?_
      have e1 : 15 + (r * 7 + (1 + (lane + 1))) = (15 + (r * 7 + (1 + lane))) + 1 := by omega
      have ev : v_sp f e (t + 1) N (15 + (r * 7 + (1 + lane))) b = v_sp f e t (nup N (15 + (r * 7 + (1 + lane))) (tx_v f e 4 b)) ((15 + (r * 7 + (1 + lane))) + 1) (tx_n f e b) := tif_t h22
      rw [ev, ← e1] at q1 q0
      exact ih (lane + 1) _ (nup N (15 + (r * 7 + (1 + lane))) (tx_v f e 4 b)) _ _ (by rw [nup_ne (by omega)]; omega) (by omega) (by rw [nup_ne (by omega)]; exact h6) (by rw [nup_ne (by omega)]; exact hs) (cst_fr (W := [((214 : Nat), some (3 : Int)), ((214 : Nat), some (4 : Int)), ((214 : Nat), some (5 : Int)), ((214 : Nat), some (6 : Int)), ((214 : Nat), some (7 : Int)), ((18 : Nat), none)]) hC (fr_p (fr_t fr_0 hf22 (by decide)) (Or.inl (by decide))) (by decide +kernel)) (vw_fr (W := [((18 : Nat), none)]) hv22 (fr_p fr_0 (Or.inl (by decide))) (by decide)) hb22 ((cs_pS (b := 16) (by omega) (by omega)).trans (congrArg (fun V9 => nup V9 (15 + (r * 7 + (1 + lane))) (tx_v f e 4 b)) ((cs_frd hf22 (by decide)).trans (hT)))) (fun M2 g1 g2 g3 g4 g5 => q1 M2 (fr_t (fr_p (fr_t fr_0 hf22 (by decide)) (Or.inl (by decide))) g1 (by decide)) g2 g3 g4 g5) (fun M2 g1 g2 g3 g5 => q0 M2 (fr_t (fr_p (fr_t fr_0 hf22 (by decide)) (Or.inl (by decide))) g1 (by decide)) g2 g3 g5)
    · show gm_Wp X LX d _ _ 109 25 _ [gm_vi (-1)] n K _ _ Q
      have h22 : ¬ vn f e 0 20 b := h22
      refine gm_sz (gm_p_stor (pc := 25) (i := .istore 5) (sr := 0) (j := 5) (by decide +kernel) rfl (show 6 ≤ _ from Nat.le_of_ble_eq_true rfl) rfl) ?_
      refine gm_sz (gm_p_load (pc := 27) (i := .iload 5) (sr := 0) (j := 5) (by decide +kernel) rfl rfl rfl) ?_
      refine gm_sz (gm_p_const (pc := 29) (i := .iconst (-1)) (v := gm_vi (-1)) (by decide +kernel) (by decide +kernel)) ?_
      refine fw_icfd (cc := .ne) (pc := 30) (off := 5) (by decide +kernel) (by decide) ⟨by decide, by decide⟩ ⟨by decide, by decide⟩ (by decide) ?_
      refine gm_sz (gm_p_const (pc := 33) (i := .iconst 0) (v := gm_vi 0) (by decide +kernel) (by decide +kernel)) ?_
      have ev : v_sp f e (t + 1) N (15 + (r * 7 + (1 + lane))) b = (false, b, N) := tif_f h22
      rw [ev] at q0
      exact gm_r_int (pc := 34) (by decide +kernel) (Or.inr ⟨(by decide +kernel), Or.inl rfl⟩) (q0 _ (fr_t fr_0 hf22 (by decide)) (cst_fr (W := [((214 : Nat), some (3 : Int)), ((214 : Nat), some (4 : Int)), ((214 : Nat), some (5 : Int)), ((214 : Nat), some (6 : Int)), ((214 : Nat), some (7 : Int))]) hC (fr_t fr_0 hf22 (by decide)) (by decide +kernel)) hv22 (fun h => by cases h))
theorem vy_109_25 (hd : 3 ≤ d) (hE : E0 n K R) (hF : VF f e) {r : Int} (hr : 0 ≤ r ∧ r < 6) : ∀ (t : Nat) (lane b : Int) (N : Int → Int) (M : gm_M) (z : Option gm_V), lane + t = N 0 → 0 ≤ lane → N 0 ≤ 6 → N 6 = r + 1 → CST M → VW f e b (-1) M → 0 ≤ b ∧ b ≤ e → cs M 16 = N → (∀ M2, fr [((214 : Nat), some (3 : Int)), ((214 : Nat), some (4 : Int)), ((214 : Nat), some (5 : Int)), ((214 : Nat), some (6 : Int)), ((214 : Nat), some (7 : Int)), ((16 : Nat), none), ((17 : Nat), some (3 : Int)), ((18 : Nat), none), ((19 : Nat), some (3 : Int)), ((20 : Nat), none), ((21 : Nat), some (3 : Int)), ((22 : Nat), none), ((23 : Nat), some (3 : Int)), ((24 : Nat), none), ((25 : Nat), some (3 : Int)), ((26 : Nat), none)] M M2 → CST M2 → VW f e (v_sp f e t N (287 + (r * 6 + (0 + lane))) b).2.1 (-1) M2 → cs M2 16 = (v_sp f e t N (287 + (r * 6 + (0 + lane))) b).2.2 → (v_sp f e t N (287 + (r * 6 + (0 + lane))) b).1 = true → Q (.inl (some (gm_vi 1))) n K R M2) → (∀ M2, fr [((214 : Nat), some (3 : Int)), ((214 : Nat), some (4 : Int)), ((214 : Nat), some (5 : Int)), ((214 : Nat), some (6 : Int)), ((214 : Nat), some (7 : Int)), ((16 : Nat), none), ((17 : Nat), some (3 : Int)), ((18 : Nat), none), ((19 : Nat), some (3 : Int)), ((20 : Nat), none), ((21 : Nat), some (3 : Int)), ((22 : Nat), none), ((23 : Nat), some (3 : Int)), ((24 : Nat), none), ((25 : Nat), some (3 : Int)), ((26 : Nat), none)] M M2 → CST M2 → VW f e (v_sp f e t N (287 + (r * 6 + (0 + lane))) b).2.1 (v_sp f e t N (287 + (r * 6 + (0 + lane))) b).2.1 M2 → ¬ (v_sp f e t N (287 + (r * 6 + (0 + lane))) b).1 = true → Q (.inl (some (gm_vi 0))) n K R M2) → gm_Wp X LX d bc bs 109 3 [some (gm_vr 213), some (gm_vr 25), some (gm_vi r), some (gm_vi 0), some (gm_vi lane), z] [] n K R M Q := by
  intro t
  induction t with
  | zero =>
    intro lane b N M z hl h0 h6 hs hC hV hb hT q1 q0
    refine gm_sz (gm_p_load (pc := 3) (i := .iload 4) (sr := 0) (j := 4) (by decide +kernel) rfl rfl rfl) ?_
    refine gm_sz (gm_p_load (pc := 5) (i := .aload_n 0) (sr := 2) (j := 0) (by decide +kernel) rfl rfl rfl) ?_
    refine gm_sz (fw_gr (pc := 6) (ix := 9) (ci := 7) (j := 2) (r := 16) (by decide +kernel) (e0k hE (k := 213) (c := 7) (by decide +kernel)) (by decide +kernel) (by decide +kernel) (e0r hE (k := 213) (j := 2) (r := 16) (by decide +kernel))) ?_
    refine gm_sz (fw_gi (pc := 9) (ix := 92) (ci := 1) (j := 0) (x := (N 0)) (by decide +kernel) (e0k hE (k := 16) (c := 1) (by decide +kernel)) (by decide +kernel) (by decide +kernel) (dr_0 hT)) ?_
    refine fw_ict (cc := .ge) (pc := 12) (off := 40) (by decide +kernel) (by decide) ⟨by omega, by omega⟩ ⟨by omega, by omega⟩ (show (N 0) ≤ lane by omega) ?_
    refine gm_sz (gm_p_const (pc := 52) (i := .iconst 1) (v := gm_vi 1) (by decide +kernel) (by decide +kernel)) ?_
    exact gm_r_int (pc := 53) (by decide +kernel) (Or.inr ⟨(by decide +kernel), Or.inr rfl⟩) (q1 _ fr_0 hC hV (hT.trans (show N = _ from rfl)) rfl)
  | succ t ih =>
    intro lane b N M z hl h0 h6 hs hC hV hb hT q1 q0
    refine gm_sz (gm_p_load (pc := 3) (i := .iload 4) (sr := 0) (j := 4) (by decide +kernel) rfl rfl rfl) ?_
    refine gm_sz (gm_p_load (pc := 5) (i := .aload_n 0) (sr := 2) (j := 0) (by decide +kernel) rfl rfl rfl) ?_
    refine gm_sz (fw_gr (pc := 6) (ix := 9) (ci := 7) (j := 2) (r := 16) (by decide +kernel) (e0k hE (k := 213) (c := 7) (by decide +kernel)) (by decide +kernel) (by decide +kernel) (e0r hE (k := 213) (j := 2) (r := 16) (by decide +kernel))) ?_
    refine gm_sz (fw_gi (pc := 9) (ix := 92) (ci := 1) (j := 0) (x := (N 0)) (by decide +kernel) (e0k hE (k := 16) (c := 1) (by decide +kernel)) (by decide +kernel) (by decide +kernel) (dr_0 hT)) ?_
    refine fw_icf (cc := .ge) (pc := 12) (off := 40) (by decide +kernel) (by decide) ⟨by omega, by omega⟩ ⟨by omega, by omega⟩ (show ¬ (N 0) ≤ lane by omega) ?_
    refine gm_sz (gm_p_load (pc := 15) (i := .aload_n 0) (sr := 2) (j := 0) (by decide +kernel) rfl rfl rfl) ?_
    refine gm_sz (fw_gr (pc := 16) (ix := 15) (ci := 7) (j := 0) (r := 214) (by decide +kernel) (e0k hE (k := 213) (c := 7) (by decide +kernel)) (by decide +kernel) (by decide +kernel) (e0r hE (k := 213) (j := 0) (r := 214) (by decide +kernel))) ?_
    refine gm_sz (gm_p_const (pc := 19) (i := .iconst 0) (v := gm_vi 0) (by decide +kernel) (by decide +kernel)) ?_
    refine gm_sz (gm_p_const (pc := 20) (i := .bipush 20) (v := gm_vi 20) (by decide +kernel) (by decide +kernel)) ?_
    refine gm_c_virt (k := 214) (ci := 8) (mj := 94) (ix := 88) (pc := 22) (as := [gm_vi 0, gm_vi 20]) (st := []) (d' := d - 1) (bc' := 0) (bs' := 0) (by decide +kernel) (by decide +kernel) (by decide +kernel) (by decide +kernel) (e0k hE (k := 214) (c := 8) (by decide +kernel)).1 (e0k hE (k := 214) (c := 8) (by decide +kernel)).2 (by decide) (by decide +kernel) (show 2 = gm_na 94 by decide +kernel) (fw_c2 fw_si fw_si) (show 3 ≤ gm_ml 94 by decide +kernel) (Nat.le_of_ble_eq_true rfl) (by omega) (Nat.zero_le _) (Nat.zero_le _) ?_
    refine vw_94 (by omega) hE hF hV ⟨by decide, by decide⟩ ⟨by decide, by decide⟩ hb (fun h22 M22 hf22 hv22 => ?_) (fun h22 M22 hf22 hv22 => ?_)
    · show gm_Wp X LX d _ _ 109 25 _ [gm_vi (tx_v f e 4 b)] n K _ _ Q
      have h22 : vn f e 0 20 b := h22
      have hr22 : 0 ≤ tx_v f e 4 b ∧ tx_v f e 4 b ≤ 20 := h22.2
      have hb22 := tx_nb (f := f) (e := e) (b := b) hb.2
      have hb22 : 0 ≤ tx_n f e b ∧ tx_n f e b ≤ e := ⟨by have := hb.1; omega, hb22.2.1⟩
      refine gm_sz (gm_p_stor (pc := 25) (i := .istore 5) (sr := 0) (j := 5) (by decide +kernel) rfl (show 6 ≤ _ from Nat.le_of_ble_eq_true rfl) rfl) ?_
      refine gm_sz (gm_p_load (pc := 27) (i := .iload 5) (sr := 0) (j := 5) (by decide +kernel) rfl rfl rfl) ?_
      refine gm_sz (gm_p_const (pc := 29) (i := .iconst (-1)) (v := gm_vi (-1)) (by decide +kernel) (by decide +kernel)) ?_
      refine fw_ict (cc := .ne) (pc := 30) (off := 5) (by decide +kernel) (by decide) ⟨by omega, by omega⟩ ⟨by decide, by decide⟩ (show ¬ (tx_v f e 4 b) = (-1) by omega) ?_
      refine gm_sz (gm_p_load (pc := 35) (i := .aload_n 1) (sr := 2) (j := 1) (by decide +kernel) rfl rfl rfl) ?_
      refine gm_sz (gm_p_load (pc := 36) (i := .iload_n 2) (sr := 0) (j := 2) (by decide +kernel) rfl rfl rfl) ?_
      refine gm_sz (gm_p_load (pc := 37) (i := .iload_n 3) (sr := 0) (j := 3) (by decide +kernel) rfl rfl rfl) ?_
      refine gm_sz (gm_p_load (pc := 38) (i := .iload 4) (sr := 0) (j := 4) (by decide +kernel) rfl rfl rfl) ?_
      refine gm_sz (gm_p_bin (pc := 40) (i := .iadd) (f := fun x y => x + y) (by decide +kernel) rfl) ?_
      refine gm_sz (gm_p_load (pc := 41) (i := .iload 5) (sr := 0) (j := 5) (by decide +kernel) rfl rfl rfl) ?_
      refine gm_c_virt (k := 25) (ci := 2) (mj := 45) (ix := 120) (pc := 43) (as := [gm_vi r, gm_vi (0 + lane), gm_vi (tx_v f e 4 b)]) (st := []) (d' := d - 1) (bc' := 0) (bs' := 0) (by decide +kernel) (by decide +kernel) (by decide +kernel) (by decide +kernel) (e0k hE (k := 25) (c := 2) (by decide +kernel)).1 (e0k hE (k := 25) (c := 2) (by decide +kernel)).2 (by decide) (by decide +kernel) (show 3 = gm_na 45 by decide +kernel) (fw_c3 fw_si fw_si fw_si) (show 4 ≤ gm_ml 45 by decide +kernel) (Nat.le_of_ble_eq_true rfl) (by omega) (Nat.zero_le _) (Nat.zero_le _) ?_
      refine rw_put (s := (N 6)) (w := 6) (e0k hE (k := 25) (c := 2) (by decide +kernel)) (e0a hE (k := 26) (q := ((0 : Nat), (36 : Nat))) (by decide +kernel)) (e0r hE (k := 25) (j := 2) (r := 26) (by decide +kernel)) (by decide) ((fr_c hf22 (by decide)).trans (dr_6 hT)) ((fr_c hf22 (by decide)).trans (hC (25, 1, 6) (by decide))) ⟨by omega, by omega⟩ ⟨by omega, by omega⟩ ⟨by omega, by omega⟩ ⟨by omega, by omega⟩ ?_
      show gm_Wp X LX d _ _ 109 46 _ [] n K _ _ Q
      refine gm_sz (gm_p_iinc (pc := 46) (j := 4) (z := 1) (by decide +kernel) rfl) ?_
      refine gm_sz (gm_p_goto (pc := 49) (off := (-46)) (by decide +kernel) (by decide)) ?_
      have e1 : 287 + (r * 6 + (0 + (lane + 1))) = (287 + (r * 6 + (0 + lane))) + 1 := by omega
      have ev : v_sp f e (t + 1) N (287 + (r * 6 + (0 + lane))) b = v_sp f e t (nup N (287 + (r * 6 + (0 + lane))) (tx_v f e 4 b)) ((287 + (r * 6 + (0 + lane))) + 1) (tx_n f e b) := tif_t h22
      rw [ev, ← e1] at q1 q0
      exact ih (lane + 1) _ (nup N (287 + (r * 6 + (0 + lane))) (tx_v f e 4 b)) _ _ (by rw [nup_ne (by omega)]; omega) (by omega) (by rw [nup_ne (by omega)]; exact h6) (by rw [nup_ne (by omega)]; exact hs) (cst_fr (W := [((214 : Nat), some (3 : Int)), ((214 : Nat), some (4 : Int)), ((214 : Nat), some (5 : Int)), ((214 : Nat), some (6 : Int)), ((214 : Nat), some (7 : Int)), ((26 : Nat), none)]) hC (fr_p (fr_t fr_0 hf22 (by decide)) (Or.inl (by decide))) (by decide +kernel)) (vw_fr (W := [((26 : Nat), none)]) hv22 (fr_p fr_0 (Or.inl (by decide))) (by decide)) hb22 ((cs_pT (b := 16) (by omega) (by omega)).trans (congrArg (fun V9 => nup V9 (287 + (r * 6 + (0 + lane))) (tx_v f e 4 b)) ((cs_frd hf22 (by decide)).trans (hT)))) (fun M2 g1 g2 g3 g4 g5 => q1 M2 (fr_t (fr_p (fr_t fr_0 hf22 (by decide)) (Or.inl (by decide))) g1 (by decide)) g2 g3 g4 g5) (fun M2 g1 g2 g3 g5 => q0 M2 (fr_t (fr_p (fr_t fr_0 hf22 (by decide)) (Or.inl (by decide))) g1 (by decide)) g2 g3 g5)
    · show gm_Wp X LX d _ _ 109 25 _ [gm_vi (-1)] n K _ _ Q
      have h22 : ¬ vn f e 0 20 b := h22
      refine gm_sz (gm_p_stor (pc := 25) (i := .istore 5) (sr := 0) (j := 5) (by decide +kernel) rfl (show 6 ≤ _ from Nat.le_of_ble_eq_true rfl) rfl) ?_
      refine gm_sz (gm_p_load (pc := 27) (i := .iload 5) (sr := 0) (j := 5) (by decide +kernel) rfl rfl rfl) ?_
      refine gm_sz (gm_p_const (pc := 29) (i := .iconst (-1)) (v := gm_vi (-1)) (by decide +kernel) (by decide +kernel)) ?_
      refine fw_icfd (cc := .ne) (pc := 30) (off := 5) (by decide +kernel) (by decide) ⟨by decide, by decide⟩ ⟨by decide, by decide⟩ (by decide) ?_
      refine gm_sz (gm_p_const (pc := 33) (i := .iconst 0) (v := gm_vi 0) (by decide +kernel) (by decide +kernel)) ?_
      have ev : v_sp f e (t + 1) N (287 + (r * 6 + (0 + lane))) b = (false, b, N) := tif_f h22
      rw [ev] at q0
      exact gm_r_int (pc := 34) (by decide +kernel) (Or.inr ⟨(by decide +kernel), Or.inl rfl⟩) (q0 _ (fr_t fr_0 hf22 (by decide)) (cst_fr (W := [((214 : Nat), some (3 : Int)), ((214 : Nat), some (4 : Int)), ((214 : Nat), some (5 : Int)), ((214 : Nat), some (6 : Int)), ((214 : Nat), some (7 : Int))]) hC (fr_t fr_0 hf22 (by decide)) (by decide +kernel)) hv22 (fun h => by cases h))
theorem vy_109e_17 (hd : 3 ≤ d) (hE : E0 n K R) (hF : VF f e) {r : Int} (hr : 0 ≤ r ∧ r < 8) {t : Nat} (ht : (t : Int) = N 0) (h6 : N 0 ≤ 6) (hs : N 2 = r + 1) (hC : CST M) (hV : VW f e b (-1) M) (hb : 0 ≤ b ∧ b ≤ e) (hT : cs M 16 = N) (q1 : ∀ M2, fr [((214 : Nat), some (3 : Int)), ((214 : Nat), some (4 : Int)), ((214 : Nat), some (5 : Int)), ((214 : Nat), some (6 : Int)), ((214 : Nat), some (7 : Int)), ((16 : Nat), none), ((17 : Nat), some (3 : Int)), ((18 : Nat), none), ((19 : Nat), some (3 : Int)), ((20 : Nat), none), ((21 : Nat), some (3 : Int)), ((22 : Nat), none), ((23 : Nat), some (3 : Int)), ((24 : Nat), none), ((25 : Nat), some (3 : Int)), ((26 : Nat), none)] M M2 → CST M2 → VW f e (v_sp f e t N (15 + (r * 7 + (1 + 0))) b).2.1 (-1) M2 → cs M2 16 = (v_sp f e t N (15 + (r * 7 + (1 + 0))) b).2.2 → (v_sp f e t N (15 + (r * 7 + (1 + 0))) b).1 = true → Q (.inl (some (gm_vi 1))) n K R M2) (q0 : ∀ M2, fr [((214 : Nat), some (3 : Int)), ((214 : Nat), some (4 : Int)), ((214 : Nat), some (5 : Int)), ((214 : Nat), some (6 : Int)), ((214 : Nat), some (7 : Int)), ((16 : Nat), none), ((17 : Nat), some (3 : Int)), ((18 : Nat), none), ((19 : Nat), some (3 : Int)), ((20 : Nat), none), ((21 : Nat), some (3 : Int)), ((22 : Nat), none), ((23 : Nat), some (3 : Int)), ((24 : Nat), none), ((25 : Nat), some (3 : Int)), ((26 : Nat), none)] M M2 → CST M2 → VW f e (v_sp f e t N (15 + (r * 7 + (1 + 0))) b).2.1 (v_sp f e t N (15 + (r * 7 + (1 + 0))) b).2.1 M2 → ¬ (v_sp f e t N (15 + (r * 7 + (1 + 0))) b).1 = true → Q (.inl (some (gm_vi 0))) n K R M2) : gm_Wp X LX d bc bs 109 0 (gm_ent 109 [gm_vr 213, gm_vr 17, gm_vi r, gm_vi 1]) [] n K R M Q := by
  refine gm_sz (gm_p_const (pc := 0) (i := .iconst 0) (v := gm_vi 0) (by decide +kernel) (by decide +kernel)) ?_
  refine gm_sz (gm_p_stor (pc := 1) (i := .istore 4) (sr := 0) (j := 4) (by decide +kernel) rfl (show 5 ≤ _ from Nat.le_of_ble_eq_true rfl) rfl) ?_
  exact vy_109_17 hd hE hF hr t 0 b N M none (by omega) (Int.le_refl _) h6 hs hC hV hb hT q1 q0
theorem vy_109e_25 (hd : 3 ≤ d) (hE : E0 n K R) (hF : VF f e) {r : Int} (hr : 0 ≤ r ∧ r < 6) {t : Nat} (ht : (t : Int) = N 0) (h6 : N 0 ≤ 6) (hs : N 6 = r + 1) (hC : CST M) (hV : VW f e b (-1) M) (hb : 0 ≤ b ∧ b ≤ e) (hT : cs M 16 = N) (q1 : ∀ M2, fr [((214 : Nat), some (3 : Int)), ((214 : Nat), some (4 : Int)), ((214 : Nat), some (5 : Int)), ((214 : Nat), some (6 : Int)), ((214 : Nat), some (7 : Int)), ((16 : Nat), none), ((17 : Nat), some (3 : Int)), ((18 : Nat), none), ((19 : Nat), some (3 : Int)), ((20 : Nat), none), ((21 : Nat), some (3 : Int)), ((22 : Nat), none), ((23 : Nat), some (3 : Int)), ((24 : Nat), none), ((25 : Nat), some (3 : Int)), ((26 : Nat), none)] M M2 → CST M2 → VW f e (v_sp f e t N (287 + (r * 6 + (0 + 0))) b).2.1 (-1) M2 → cs M2 16 = (v_sp f e t N (287 + (r * 6 + (0 + 0))) b).2.2 → (v_sp f e t N (287 + (r * 6 + (0 + 0))) b).1 = true → Q (.inl (some (gm_vi 1))) n K R M2) (q0 : ∀ M2, fr [((214 : Nat), some (3 : Int)), ((214 : Nat), some (4 : Int)), ((214 : Nat), some (5 : Int)), ((214 : Nat), some (6 : Int)), ((214 : Nat), some (7 : Int)), ((16 : Nat), none), ((17 : Nat), some (3 : Int)), ((18 : Nat), none), ((19 : Nat), some (3 : Int)), ((20 : Nat), none), ((21 : Nat), some (3 : Int)), ((22 : Nat), none), ((23 : Nat), some (3 : Int)), ((24 : Nat), none), ((25 : Nat), some (3 : Int)), ((26 : Nat), none)] M M2 → CST M2 → VW f e (v_sp f e t N (287 + (r * 6 + (0 + 0))) b).2.1 (v_sp f e t N (287 + (r * 6 + (0 + 0))) b).2.1 M2 → ¬ (v_sp f e t N (287 + (r * 6 + (0 + 0))) b).1 = true → Q (.inl (some (gm_vi 0))) n K R M2) : gm_Wp X LX d bc bs 109 0 (gm_ent 109 [gm_vr 213, gm_vr 25, gm_vi r, gm_vi 0]) [] n K R M Q := by
  refine gm_sz (gm_p_const (pc := 0) (i := .iconst 0) (v := gm_vi 0) (by decide +kernel) (by decide +kernel)) ?_
  refine gm_sz (gm_p_stor (pc := 1) (i := .istore 4) (sr := 0) (j := 4) (by decide +kernel) rfl (show 5 ≤ _ from Nat.le_of_ble_eq_true rfl) rfl) ?_
  exact vy_109_25 hd hE hF hr t 0 b N M none (by omega) (Int.le_refl _) h6 hs hC hV hb hT q1 q0
theorem vy_107a (hd : 8 ≤ d) (hE : E0 n K R) (hC : CST M) (hF : VF f e) (hV : VW f e b (-1) M) (hb : 0 ≤ b ∧ b ≤ e) (hT : cs M 16 = N) (hN : NR N) (h2 : N 2 = 0) (q1 : ∀ M2, fr [((214 : Nat), some (3 : Int)), ((214 : Nat), some (4 : Int)), ((214 : Nat), some (5 : Int)), ((214 : Nat), some (6 : Int)), ((214 : Nat), some (7 : Int)), ((16 : Nat), none), ((17 : Nat), some (3 : Int)), ((18 : Nat), none), ((19 : Nat), some (3 : Int)), ((20 : Nat), none), ((21 : Nat), some (3 : Int)), ((22 : Nat), none), ((23 : Nat), some (3 : Int)), ((24 : Nat), none), ((25 : Nat), some (3 : Int)), ((26 : Nat), none)] M M2 → CST M2 → VW f e (v_section f e N b).2.1 (-1) M2 → cs M2 16 = (v_section f e N b).2.2 → (v_section f e N b).1 = true → Q (.inl (some (gm_vi 1))) n K R M2) (q0 : ∀ M2, fr [((214 : Nat), some (3 : Int)), ((214 : Nat), some (4 : Int)), ((214 : Nat), some (5 : Int)), ((214 : Nat), some (6 : Int)), ((214 : Nat), some (7 : Int)), ((16 : Nat), none), ((17 : Nat), some (3 : Int)), ((18 : Nat), none), ((19 : Nat), some (3 : Int)), ((20 : Nat), none), ((21 : Nat), some (3 : Int)), ((22 : Nat), none), ((23 : Nat), some (3 : Int)), ((24 : Nat), none), ((25 : Nat), some (3 : Int)), ((26 : Nat), none)] M M2 → CST M2 → VW f e (v_section f e N b).2.1 (v_section f e N b).2.1 M2 → ¬ (v_section f e N b).1 = true → Q (.inl (some (gm_vi 0))) n K R M2) : gm_Wp X LX d bc bs 107 0 (gm_ent 107 [gm_vr 213]) [] n K R M Q := by
  obtain ⟨⟨⟨a0, b0⟩, ⟨a1, b1⟩, ⟨a10, b10⟩, ⟨a11, b11⟩, ⟨a12, b12⟩, a9, b9⟩, ⟨⟨a2, b2⟩, ⟨a5, b5⟩, ⟨a3, b3⟩, ⟨a4, b4⟩, ⟨a6, b6⟩, ⟨a14, b14⟩, ⟨a7, b7⟩, a13, b13⟩, rF, rP, rL⟩ := id hN
  refine gm_sz (gm_p_load (pc := 0) (i := .aload_n 0) (sr := 2) (j := 0) (by decide +kernel) rfl rfl rfl) ?_
  refine gm_sz (fw_gr (pc := 1) (ix := 9) (ci := 7) (j := 2) (r := 16) (by decide +kernel) (e0k hE (k := 213) (c := 7) (by decide +kernel)) (by decide +kernel) (by decide +kernel) (e0r hE (k := 213) (j := 2) (r := 16) (by decide +kernel))) ?_
  refine gm_sz (fw_gr (pc := 4) (ix := 101) (ci := 1) (j := 9) (r := 17) (by decide +kernel) (e0k hE (k := 16) (c := 1) (by decide +kernel)) (by decide +kernel) (by decide +kernel) (e0r hE (k := 16) (j := 9) (r := 17) (by decide +kernel))) ?_
  refine gm_c_virt (k := 17) (ci := 2) (mj := 108) (ix := 105) (pc := 7) (as := []) (st := []) (d' := d - 1) (bc' := 0) (bs' := 0) (by decide +kernel) (by decide +kernel) (by decide +kernel) (by decide +kernel) (e0k hE (k := 17) (c := 2) (by decide +kernel)).1 (e0k hE (k := 17) (c := 2) (by decide +kernel)).2 (by decide) (by decide +kernel) (show 0 = gm_na 108 by decide +kernel) fw_c0 (show 1 ≤ gm_ml 108 by decide +kernel) (Nat.le_of_ble_eq_true rfl) (by omega) (Nat.zero_le _) (Nat.zero_le _) ?_
  refine rw_full (s := (N 2)) (m := 8) (e0k hE (k := 17) (c := 2) (by decide +kernel)) (dr_2 hT) (hC (17, 0, 8) (by decide)) ⟨⟨by omega, by omega⟩, ⟨by decide, by decide⟩⟩ (fun f7 => ?_) (fun f7 => ?_)
  · show gm_Wp X LX d _ _ 107 10 _ [gm_vi 1] n K _ _ Q
    have f7 : 8 ≤ (N 2) := f7
    refine fw_iffd (cc := .eq) (pc := 10) (off := 11) (by decide +kernel) (by decide) ⟨by decide, by decide⟩ (by decide) ?_
    refine gm_sz (gm_p_load (pc := 13) (i := .aload_n 0) (sr := 2) (j := 0) (by decide +kernel) rfl rfl rfl) ?_
    refine gm_sz (fw_gr (pc := 14) (ix := 15) (ci := 7) (j := 0) (r := 214) (by decide +kernel) (e0k hE (k := 213) (c := 7) (by decide +kernel)) (by decide +kernel) (by decide +kernel) (e0r hE (k := 213) (j := 0) (r := 214) (by decide +kernel))) ?_
    refine gm_c_virt (k := 214) (ci := 8) (mj := 93) (ix := 76) (pc := 17) (as := []) (st := []) (d' := d - 1) (bc' := 0) (bs' := 0) (by decide +kernel) (by decide +kernel) (by decide +kernel) (by decide +kernel) (e0k hE (k := 214) (c := 8) (by decide +kernel)).1 (e0k hE (k := 214) (c := 8) (by decide +kernel)).2 (by decide) (by decide +kernel) (show 0 = gm_na 93 by decide +kernel) fw_c0 (show 1 ≤ gm_ml 93 by decide +kernel) (Nat.le_of_ble_eq_true rfl) (by omega) (Nat.zero_le _) (Nat.zero_le _) ?_
    refine vw_93 hE hF hV hb (fun M17 hf17 hv17 => ?_)
    show gm_Wp X LX d _ _ 107 20 _ [gm_vi 0] n K _ _ Q
    have ev : v_section f e N b = (false, b, N) := by
      unfold v_section
      rw [tif_t (show N 2 = 8 by omega)]
      first | done | rfl
    rw [ev] at q0
    exact gm_r_int (pc := 20) (by decide +kernel) (Or.inr ⟨(by decide +kernel), Or.inl rfl⟩) (q0 _ (fr_t fr_0 hf17 (by decide)) (cst_fr (W := [((214 : Nat), some (3 : Int)), ((214 : Nat), some (4 : Int)), ((214 : Nat), some (5 : Int)), ((214 : Nat), some (6 : Int)), ((214 : Nat), some (7 : Int))]) hC (fr_t fr_0 hf17 (by decide)) (by decide +kernel)) hv17 (fun h => by cases h))
  · show gm_Wp X LX d _ _ 107 10 _ [gm_vi 0] n K _ _ Q
    have f7 : (N 2) < 8 := f7
    refine fw_iftd (cc := .eq) (pc := 10) (off := 11) (by decide +kernel) (by decide) ⟨by decide, by decide⟩ (by decide) ?_
    refine gm_sz (gm_p_load (pc := 21) (i := .aload_n 0) (sr := 2) (j := 0) (by decide +kernel) rfl rfl rfl) ?_
    refine gm_sz (fw_gr (pc := 22) (ix := 15) (ci := 7) (j := 0) (r := 214) (by decide +kernel) (e0k hE (k := 213) (c := 7) (by decide +kernel)) (by decide +kernel) (by decide +kernel) (e0r hE (k := 213) (j := 0) (r := 214) (by decide +kernel))) ?_
    refine gm_c_virt (k := 214) (ci := 8) (mj := 76) (ix := 84) (pc := 25) (as := []) (st := []) (d' := d - 1) (bc' := 0) (bs' := 0) (by decide +kernel) (by decide +kernel) (by decide +kernel) (by decide +kernel) (e0k hE (k := 214) (c := 8) (by decide +kernel)).1 (e0k hE (k := 214) (c := 8) (by decide +kernel)).2 (by decide) (by decide +kernel) (show 0 = gm_na 76 by decide +kernel) fw_c0 (show 1 ≤ gm_ml 76 by decide +kernel) (Nat.le_of_ble_eq_true rfl) (by omega) (Nat.zero_le _) (Nat.zero_le _) ?_
    refine vw_76 (by omega) hE hF hV hb (fun M25 hf25 hv25 => ?_)
    show gm_Wp X LX d _ _ 107 28 _ [] n K _ _ Q
    have hb25 := tx_nb (f := f) (e := e) (b := b) hb.2
    have hb25 : 0 ≤ tx_n f e b ∧ tx_n f e b ≤ e := ⟨by have := hb.1; omega, hb25.2.1⟩
    refine gm_sz (gm_p_load (pc := 28) (i := .aload_n 0) (sr := 2) (j := 0) (by decide +kernel) rfl rfl rfl) ?_
    refine gm_sz (fw_gr (pc := 29) (ix := 9) (ci := 7) (j := 2) (r := 16) (by decide +kernel) (e0k hE (k := 213) (c := 7) (by decide +kernel)) (by decide +kernel) (by decide +kernel) (e0r hE (k := 213) (j := 2) (r := 16) (by decide +kernel))) ?_
    refine gm_sz (fw_gr (pc := 32) (ix := 101) (ci := 1) (j := 9) (r := 17) (by decide +kernel) (e0k hE (k := 16) (c := 1) (by decide +kernel)) (by decide +kernel) (by decide +kernel) (e0r hE (k := 16) (j := 9) (r := 17) (by decide +kernel))) ?_
    refine gm_c_virt (k := 17) (ci := 2) (mj := 9) (ix := 110) (pc := 35) (as := []) (st := []) (d' := d - 1) (bc' := 0) (bs' := 0) (by decide +kernel) (by decide +kernel) (by decide +kernel) (by decide +kernel) (e0k hE (k := 17) (c := 2) (by decide +kernel)).1 (e0k hE (k := 17) (c := 2) (by decide +kernel)).2 (by decide) (by decide +kernel) (show 0 = gm_na 9 by decide +kernel) fw_c0 (show 1 ≤ gm_ml 9 by decide +kernel) (Nat.le_of_ble_eq_true rfl) (by omega) (Nat.zero_le _) (Nat.zero_le _) ?_
    refine rw_size (s := (N 2)) (e0k hE (k := 17) (c := 2) (by decide +kernel)) ((fr_c hf25 (by decide)).trans (dr_2 hT)) ?_
    show gm_Wp X LX d _ _ 107 38 _ [gm_vi (N 2)] n K _ _ Q
    refine gm_sz (gm_p_const (pc := 38) (i := .iconst 1) (v := gm_vi 1) (by decide +kernel) (by decide +kernel)) ?_
    refine gm_sz (gm_p_bin (pc := 39) (i := .isub) (f := fun x y => x - y) (by decide +kernel) rfl) ?_
    refine gm_sz (gm_p_stor (pc := 40) (i := .istore_n 1) (sr := 0) (j := 1) (by decide +kernel) rfl (show 2 ≤ _ from Nat.le_of_ble_eq_true rfl) rfl) ?_
    refine gm_sz (gm_p_load (pc := 41) (i := .aload_n 0) (sr := 2) (j := 0) (by decide +kernel) rfl rfl rfl) ?_
    refine gm_sz (fw_gr (pc := 42) (ix := 9) (ci := 7) (j := 2) (r := 16) (by decide +kernel) (e0k hE (k := 213) (c := 7) (by decide +kernel)) (by decide +kernel) (by decide +kernel) (e0r hE (k := 213) (j := 2) (r := 16) (by decide +kernel))) ?_
    refine gm_sz (fw_gr (pc := 45) (ix := 101) (ci := 1) (j := 9) (r := 17) (by decide +kernel) (e0k hE (k := 16) (c := 1) (by decide +kernel)) (by decide +kernel) (by decide +kernel) (e0r hE (k := 16) (j := 9) (r := 17) (by decide +kernel))) ?_
    refine gm_sz (gm_p_load (pc := 48) (i := .iload_n 1) (sr := 0) (j := 1) (by decide +kernel) rfl rfl rfl) ?_
    refine gm_sz (gm_p_const (pc := 49) (i := .iconst 0) (v := gm_vi 0) (by decide +kernel) (by decide +kernel)) ?_
    refine gm_c_virt (k := 17) (ci := 2) (mj := 10) (ix := 114) (pc := 50) (as := [gm_vi ((N 2) - 1), gm_vi 0]) (st := []) (d' := d - 1) (bc' := 0) (bs' := 0) (by decide +kernel) (by decide +kernel) (by decide +kernel) (by decide +kernel) (e0k hE (k := 17) (c := 2) (by decide +kernel)).1 (e0k hE (k := 17) (c := 2) (by decide +kernel)).2 (by decide) (by decide +kernel) (show 2 = gm_na 10 by decide +kernel) (fw_c2 fw_si fw_si) (show 3 ≤ gm_ml 10 by decide +kernel) (Nat.le_of_ble_eq_true rfl) (by omega) (Nat.zero_le _) (Nat.zero_le _) ?_
    refine rw_none (s := (N 2)) (e0k hE (k := 17) (c := 2) (by decide +kernel)) ((fr_c hf25 (by decide)).trans (dr_2 hT)) (by omega) ⟨⟨by omega, by omega⟩, ⟨by omega, by omega⟩⟩ ?_
    show gm_Wp X LX d _ _ 107 53 _ [gm_vi (-1)] n K _ _ Q
    refine gm_sz (gm_p_const (pc := 53) (i := .iconst 1) (v := gm_vi 1) (by decide +kernel) (by decide +kernel)) ?_
    refine gm_sz (gm_p_bin (pc := 54) (i := .iadd) (f := fun x y => x + y) (by decide +kernel) rfl) ?_
    refine gm_sz (gm_p_stor (pc := 55) (i := .istore_n 2) (sr := 0) (j := 2) (by decide +kernel) rfl (show 3 ≤ _ from Nat.le_of_ble_eq_true rfl) rfl) ?_
    refine gm_sz (gm_p_load (pc := 56) (i := .aload_n 0) (sr := 2) (j := 0) (by decide +kernel) rfl rfl rfl) ?_
    refine gm_sz (fw_gr (pc := 57) (ix := 15) (ci := 7) (j := 0) (r := 214) (by decide +kernel) (e0k hE (k := 213) (c := 7) (by decide +kernel)) (by decide +kernel) (by decide +kernel) (e0r hE (k := 213) (j := 0) (r := 214) (by decide +kernel))) ?_
    refine gm_sz (gm_p_load (pc := 60) (i := .iload_n 2) (sr := 0) (j := 2) (by decide +kernel) rfl rfl rfl) ?_
    refine gm_sz (gm_p_load (pc := 61) (i := .iload_n 1) (sr := 0) (j := 1) (by decide +kernel) rfl rfl rfl) ?_
    refine fw_iff (cc := .ge) (pc := 62) (off := 7) (by decide +kernel) (by decide) ⟨by omega, by omega⟩ (show ¬ 0 ≤ ((N 2) - 1) by omega) ?_
    refine gm_sz (gm_p_const (pc := 65) (i := .iconst 0) (v := gm_vi 0) (by decide +kernel) (by decide +kernel)) ?_
    refine gm_sz (gm_p_goto (pc := 66) (off := 12) (by decide +kernel) (by decide)) ?_
    refine gm_c_virt (k := 214) (ci := 8) (mj := 94) (ix := 88) (pc := 78) (as := [gm_vi 0, gm_vi 0]) (st := []) (d' := d - 1) (bc' := 0) (bs' := 0) (by decide +kernel) (by decide +kernel) (by decide +kernel) (by decide +kernel) (e0k hE (k := 214) (c := 8) (by decide +kernel)).1 (e0k hE (k := 214) (c := 8) (by decide +kernel)).2 (by decide) (by decide +kernel) (show 2 = gm_na 94 by decide +kernel) (fw_c2 fw_si fw_si) (show 3 ≤ gm_ml 94 by decide +kernel) (Nat.le_of_ble_eq_true rfl) (by omega) (Nat.zero_le _) (Nat.zero_le _) ?_
    refine vw_94 (by omega) hE hF hv25 ⟨by decide, by decide⟩ ⟨by decide, by decide⟩ hb25 (fun h78 M78 hf78 hv78 => ?_) (fun h78 M78 hf78 hv78 => ?_)
    · show gm_Wp X LX d _ _ 107 81 _ [gm_vi (tx_v f e 4 (tx_n f e b))] n K _ _ Q
      have h78 : vn f e 0 0 (tx_n f e b) := h78
      have hr78 : 0 ≤ tx_v f e 4 (tx_n f e b) ∧ tx_v f e 4 (tx_n f e b) ≤ 0 := h78.2
      have hb78 := tx_nb (f := f) (e := e) (b := (tx_n f e b)) hb25.2
      have hb78 : 0 ≤ tx_n f e (tx_n f e b) ∧ tx_n f e (tx_n f e b) ≤ e := ⟨by have := hb25.1; omega, hb78.2.1⟩
      refine gm_sz (gm_p_stor (pc := 81) (i := .istore_n 3) (sr := 0) (j := 3) (by decide +kernel) rfl (show 4 ≤ _ from Nat.le_of_ble_eq_true rfl) rfl) ?_
      refine gm_sz (gm_p_load (pc := 82) (i := .iload_n 3) (sr := 0) (j := 3) (by decide +kernel) rfl rfl rfl) ?_
      refine gm_sz (gm_p_const (pc := 83) (i := .iconst (-1)) (v := gm_vi (-1)) (by decide +kernel) (by decide +kernel)) ?_
      refine fw_ict (cc := .ne) (pc := 84) (off := 5) (by decide +kernel) (by decide) ⟨by omega, by omega⟩ ⟨by decide, by decide⟩ (show ¬ (tx_v f e 4 (tx_n f e b)) = (-1) by omega) ?_
      refine gm_sz (gm_p_load (pc := 89) (i := .aload_n 0) (sr := 2) (j := 0) (by decide +kernel) rfl rfl rfl) ?_
      refine gm_sz (fw_gr (pc := 90) (ix := 9) (ci := 7) (j := 2) (r := 16) (by decide +kernel) (e0k hE (k := 213) (c := 7) (by decide +kernel)) (by decide +kernel) (by decide +kernel) (e0r hE (k := 213) (j := 2) (r := 16) (by decide +kernel))) ?_
      refine gm_sz (fw_gr (pc := 93) (ix := 101) (ci := 1) (j := 9) (r := 17) (by decide +kernel) (e0k hE (k := 16) (c := 1) (by decide +kernel)) (by decide +kernel) (by decide +kernel) (e0r hE (k := 16) (j := 9) (r := 17) (by decide +kernel))) ?_
      refine gm_c_virt (k := 17) (ci := 2) (mj := 102) (ix := 117) (pc := 96) (as := []) (st := []) (d' := d - 1) (bc' := 0) (bs' := 0) (by decide +kernel) (by decide +kernel) (by decide +kernel) (by decide +kernel) (e0k hE (k := 17) (c := 2) (by decide +kernel)).1 (e0k hE (k := 17) (c := 2) (by decide +kernel)).2 (by decide) (by decide +kernel) (show 0 = gm_na 102 by decide +kernel) fw_c0 (show 1 ≤ gm_ml 102 by decide +kernel) (Nat.le_of_ble_eq_true rfl) (by omega) (Nat.zero_le _) (Nat.zero_le _) ?_
      refine rw_add (s := (N 2)) (m := 8) (e0k hE (k := 17) (c := 2) (by decide +kernel)) ((fr_c hf78 (by decide)).trans ((fr_c hf25 (by decide)).trans (dr_2 hT))) ((fr_c hf78 (by decide)).trans ((fr_c hf25 (by decide)).trans (hC (17, 0, 8) (by decide)))) ⟨by omega, by omega⟩ (by omega) ?_
      show gm_Wp X LX d _ _ 107 99 _ [gm_vi (N 2)] n K _ _ Q
      refine gm_sz (gm_p_stor (pc := 99) (i := .istore 4) (sr := 0) (j := 4) (by decide +kernel) rfl (show 5 ≤ _ from Nat.le_of_ble_eq_true rfl) rfl) ?_
      refine gm_sz (gm_p_load (pc := 101) (i := .aload_n 0) (sr := 2) (j := 0) (by decide +kernel) rfl rfl rfl) ?_
      refine gm_sz (fw_gr (pc := 102) (ix := 9) (ci := 7) (j := 2) (r := 16) (by decide +kernel) (e0k hE (k := 213) (c := 7) (by decide +kernel)) (by decide +kernel) (by decide +kernel) (e0r hE (k := 213) (j := 2) (r := 16) (by decide +kernel))) ?_
      refine gm_sz (fw_gr (pc := 105) (ix := 101) (ci := 1) (j := 9) (r := 17) (by decide +kernel) (e0k hE (k := 16) (c := 1) (by decide +kernel)) (by decide +kernel) (by decide +kernel) (e0r hE (k := 16) (j := 9) (r := 17) (by decide +kernel))) ?_
      refine gm_sz (gm_p_load (pc := 108) (i := .iload 4) (sr := 0) (j := 4) (by decide +kernel) rfl rfl rfl) ?_
      refine gm_sz (gm_p_const (pc := 110) (i := .iconst 0) (v := gm_vi 0) (by decide +kernel) (by decide +kernel)) ?_
      refine gm_sz (gm_p_load (pc := 111) (i := .iload_n 3) (sr := 0) (j := 3) (by decide +kernel) rfl rfl rfl) ?_
      refine gm_c_virt (k := 17) (ci := 2) (mj := 45) (ix := 120) (pc := 112) (as := [gm_vi (N 2), gm_vi 0, gm_vi (tx_v f e 4 (tx_n f e b))]) (st := []) (d' := d - 1) (bc' := 0) (bs' := 0) (by decide +kernel) (by decide +kernel) (by decide +kernel) (by decide +kernel) (e0k hE (k := 17) (c := 2) (by decide +kernel)).1 (e0k hE (k := 17) (c := 2) (by decide +kernel)).2 (by decide) (by decide +kernel) (show 3 = gm_na 45 by decide +kernel) (fw_c3 fw_si fw_si fw_si) (show 4 ≤ gm_ml 45 by decide +kernel) (Nat.le_of_ble_eq_true rfl) (by omega) (Nat.zero_le _) (Nat.zero_le _) ?_
      refine rw_put (s := (N 2) + 1) (w := 7) (e0k hE (k := 17) (c := 2) (by decide +kernel)) (e0a hE (k := 18) (q := ((0 : Nat), (56 : Nat))) (by decide +kernel)) (e0r hE (k := 17) (j := 2) (r := 18) (by decide +kernel)) (by decide) uM_at ((uM_ne (by omega)).trans ((fr_c hf78 (by decide)).trans ((fr_c hf25 (by decide)).trans (hC (17, 1, 7) (by decide))))) ⟨by omega, by omega⟩ ⟨by omega, by omega⟩ ⟨by omega, by omega⟩ ⟨by omega, by omega⟩ ?_
      show gm_Wp X LX d _ _ 107 115 _ [] n K _ _ Q
      refine gm_sz (gm_p_load (pc := 115) (i := .aload_n 0) (sr := 2) (j := 0) (by decide +kernel) rfl rfl rfl) ?_
      refine gm_sz (gm_p_load (pc := 116) (i := .aload_n 0) (sr := 2) (j := 0) (by decide +kernel) rfl rfl rfl) ?_
      refine gm_sz (fw_gr (pc := 117) (ix := 9) (ci := 7) (j := 2) (r := 16) (by decide +kernel) (e0k hE (k := 213) (c := 7) (by decide +kernel)) (by decide +kernel) (by decide +kernel) (e0r hE (k := 213) (j := 2) (r := 16) (by decide +kernel))) ?_
      refine gm_sz (fw_gr (pc := 120) (ix := 101) (ci := 1) (j := 9) (r := 17) (by decide +kernel) (e0k hE (k := 16) (c := 1) (by decide +kernel)) (by decide +kernel) (by decide +kernel) (e0r hE (k := 16) (j := 9) (r := 17) (by decide +kernel))) ?_
      refine gm_sz (gm_p_load (pc := 123) (i := .iload 4) (sr := 0) (j := 4) (by decide +kernel) rfl rfl rfl) ?_
      refine gm_sz (gm_p_const (pc := 125) (i := .iconst 1) (v := gm_vi 1) (by decide +kernel) (by decide +kernel)) ?_
      refine gm_c_virt (k := 213) (ci := 7) (mj := 109) (ix := 124) (pc := 126) (as := [gm_vr 17, gm_vi (N 2), gm_vi 1]) (st := []) (d' := d - 1) (bc' := 0) (bs' := 0) (by decide +kernel) (by decide +kernel) (by decide +kernel) (by decide +kernel) (e0k hE (k := 213) (c := 7) (by decide +kernel)).1 (e0k hE (k := 213) (c := 7) (by decide +kernel)).2 (by decide) (by decide +kernel) (show 3 = gm_na 109 by decide +kernel) (fw_c3 fw_sr fw_si fw_si) (show 4 ≤ gm_ml 109 by decide +kernel) (Nat.le_of_ble_eq_true rfl) (by omega) (Nat.zero_le _) (Nat.zero_le _) ?_
      refine vy_109e_17 (by omega) hE hF (N := (nup (nup N 2 ((N 2) + 1)) (15 + ((N 2) * 7 + 0)) (tx_v f e 4 (tx_n f e b)))) (r := (N 2)) (t := (N 0).toNat) ⟨by omega, by omega⟩ (by rw [nup_ne (by omega), nup_ne (by omega)]; omega) (by rw [nup_ne (by omega), nup_ne (by omega)]; omega) (by rw [nup_ne (by omega), nup_at]) (cst_fr (W := [((214 : Nat), some (3 : Int)), ((214 : Nat), some (4 : Int)), ((214 : Nat), some (5 : Int)), ((214 : Nat), some (6 : Int)), ((214 : Nat), some (7 : Int)), ((17 : Nat), some (3 : Int)), ((18 : Nat), none)]) hC (fr_p (fr_p (fr_t (fr_t fr_0 hf25 (by decide)) hf78 (by decide)) (Or.inr (by decide))) (Or.inl (by decide))) (by decide +kernel)) (vw_fr (W := [((17 : Nat), some (3 : Int)), ((18 : Nat), none)]) hv78 (fr_p (fr_p fr_0 (Or.inr (by decide))) (Or.inl (by decide))) (by decide)) hb78 ((cs_pS (b := 16) (by omega) (by omega)).trans (congrArg (fun V9 => nup V9 (15 + ((N 2) * 7 + 0)) (tx_v f e 4 (tx_n f e b))) ((cs_f2 (b := 16)).trans (congrArg (fun V9 => nup V9 2 ((N 2) + 1)) ((cs_frd hf78 (by decide)).trans ((cs_frd hf25 (by decide)).trans (hT))))))) (fun M126 g1 g2 g3 g4 g5 => ?_) (fun M126 g1 g2 g3 g5 => ?_)
      · show gm_Wp X LX d _ _ 107 129 _ [gm_vi 1] n K _ _ Q
        have ev : v_section f e N b = v_sp f e (N 0).toNat (nup (nup N 2 ((N 2) + 1)) (15 + ((N 2) * 7 + 0)) (tx_v f e 4 (tx_n f e b))) (15 + ((N 2) * 7 + (1 + 0))) (tx_n f e (tx_n f e b)) := by
          unfold v_section
          rw [tif_f (show ¬ N 2 = 8 by omega), tif_t (by rw [if_pos h2, if_pos h2]; exact h78)]
          first | done | rfl
        rw [ev] at q1 q0
        exact gm_r_int (pc := 129) (by decide +kernel) (Or.inr ⟨(by decide +kernel), Or.inr rfl⟩) (q1 _ (fr_t (fr_p (fr_p (fr_t (fr_t fr_0 hf25 (by decide)) hf78 (by decide)) (Or.inr (by decide))) (Or.inl (by decide))) g1 (by decide)) g2 g3 g4 g5)
      · show gm_Wp X LX d _ _ 107 129 _ [gm_vi 0] n K _ _ Q
        have ev : v_section f e N b = v_sp f e (N 0).toNat (nup (nup N 2 ((N 2) + 1)) (15 + ((N 2) * 7 + 0)) (tx_v f e 4 (tx_n f e b))) (15 + ((N 2) * 7 + (1 + 0))) (tx_n f e (tx_n f e b)) := by
          unfold v_section
          rw [tif_f (show ¬ N 2 = 8 by omega), tif_t (by rw [if_pos h2, if_pos h2]; exact h78)]
          first | done | rfl
        rw [ev] at q1 q0
        exact gm_r_int (pc := 129) (by decide +kernel) (Or.inr ⟨(by decide +kernel), Or.inl rfl⟩) (q0 _ (fr_t (fr_p (fr_p (fr_t (fr_t fr_0 hf25 (by decide)) hf78 (by decide)) (Or.inr (by decide))) (Or.inl (by decide))) g1 (by decide)) g2 g3 g5)
    · show gm_Wp X LX d _ _ 107 81 _ [gm_vi (-1)] n K _ _ Q
      have h78 : ¬ vn f e 0 0 (tx_n f e b) := h78
      refine gm_sz (gm_p_stor (pc := 81) (i := .istore_n 3) (sr := 0) (j := 3) (by decide +kernel) rfl (show 4 ≤ _ from Nat.le_of_ble_eq_true rfl) rfl) ?_
      refine gm_sz (gm_p_load (pc := 82) (i := .iload_n 3) (sr := 0) (j := 3) (by decide +kernel) rfl rfl rfl) ?_
      refine gm_sz (gm_p_const (pc := 83) (i := .iconst (-1)) (v := gm_vi (-1)) (by decide +kernel) (by decide +kernel)) ?_
      refine fw_icfd (cc := .ne) (pc := 84) (off := 5) (by decide +kernel) (by decide) ⟨by decide, by decide⟩ ⟨by decide, by decide⟩ (by decide) ?_
      refine gm_sz (gm_p_const (pc := 87) (i := .iconst 0) (v := gm_vi 0) (by decide +kernel) (by decide +kernel)) ?_
      have ev : v_section f e N b = (false, (tx_n f e b), N) := by
        unfold v_section
        rw [tif_f (show ¬ N 2 = 8 by omega), tif_f (by rw [if_pos h2, if_pos h2]; exact h78)]
        first | done | rfl
      rw [ev] at q0
      exact gm_r_int (pc := 88) (by decide +kernel) (Or.inr ⟨(by decide +kernel), Or.inl rfl⟩) (q0 _ (fr_t (fr_t fr_0 hf25 (by decide)) hf78 (by decide)) (cst_fr (W := [((214 : Nat), some (3 : Int)), ((214 : Nat), some (4 : Int)), ((214 : Nat), some (5 : Int)), ((214 : Nat), some (6 : Int)), ((214 : Nat), some (7 : Int))]) hC (fr_t (fr_t fr_0 hf25 (by decide)) hf78 (by decide)) (by decide +kernel)) hv78 (fun h => by cases h))
theorem vy_107b (hd : 8 ≤ d) (hE : E0 n K R) (hC : CST M) (hF : VF f e) (hV : VW f e b (-1) M) (hb : 0 ≤ b ∧ b ≤ e) (hT : cs M 16 = N) (hN : NR N) (h2 : ¬ N 2 = 0) (hS : NS N) (q1 : ∀ M2, fr [((214 : Nat), some (3 : Int)), ((214 : Nat), some (4 : Int)), ((214 : Nat), some (5 : Int)), ((214 : Nat), some (6 : Int)), ((214 : Nat), some (7 : Int)), ((16 : Nat), none), ((17 : Nat), some (3 : Int)), ((18 : Nat), none), ((19 : Nat), some (3 : Int)), ((20 : Nat), none), ((21 : Nat), some (3 : Int)), ((22 : Nat), none), ((23 : Nat), some (3 : Int)), ((24 : Nat), none), ((25 : Nat), some (3 : Int)), ((26 : Nat), none)] M M2 → CST M2 → VW f e (v_section f e N b).2.1 (-1) M2 → cs M2 16 = (v_section f e N b).2.2 → (v_section f e N b).1 = true → Q (.inl (some (gm_vi 1))) n K R M2) (q0 : ∀ M2, fr [((214 : Nat), some (3 : Int)), ((214 : Nat), some (4 : Int)), ((214 : Nat), some (5 : Int)), ((214 : Nat), some (6 : Int)), ((214 : Nat), some (7 : Int)), ((16 : Nat), none), ((17 : Nat), some (3 : Int)), ((18 : Nat), none), ((19 : Nat), some (3 : Int)), ((20 : Nat), none), ((21 : Nat), some (3 : Int)), ((22 : Nat), none), ((23 : Nat), some (3 : Int)), ((24 : Nat), none), ((25 : Nat), some (3 : Int)), ((26 : Nat), none)] M M2 → CST M2 → VW f e (v_section f e N b).2.1 (v_section f e N b).2.1 M2 → ¬ (v_section f e N b).1 = true → Q (.inl (some (gm_vi 0))) n K R M2) : gm_Wp X LX d bc bs 107 0 (gm_ent 107 [gm_vr 213]) [] n K R M Q := by
  obtain ⟨⟨⟨a0, b0⟩, ⟨a1, b1⟩, ⟨a10, b10⟩, ⟨a11, b11⟩, ⟨a12, b12⟩, a9, b9⟩, ⟨⟨a2, b2⟩, ⟨a5, b5⟩, ⟨a3, b3⟩, ⟨a4, b4⟩, ⟨a6, b6⟩, ⟨a14, b14⟩, ⟨a7, b7⟩, a13, b13⟩, rF, rP, rL⟩ := id hN
  have hs9 := (hS (N 2 - 1) (by omega) (by omega)).1
  rw [show (15 : Int) + 7 * (N 2 - 1) = 15 + ((N 2 - 1) * 7 + 0) by omega] at hs9
  refine gm_sz (gm_p_load (pc := 0) (i := .aload_n 0) (sr := 2) (j := 0) (by decide +kernel) rfl rfl rfl) ?_
  refine gm_sz (fw_gr (pc := 1) (ix := 9) (ci := 7) (j := 2) (r := 16) (by decide +kernel) (e0k hE (k := 213) (c := 7) (by decide +kernel)) (by decide +kernel) (by decide +kernel) (e0r hE (k := 213) (j := 2) (r := 16) (by decide +kernel))) ?_
  refine gm_sz (fw_gr (pc := 4) (ix := 101) (ci := 1) (j := 9) (r := 17) (by decide +kernel) (e0k hE (k := 16) (c := 1) (by decide +kernel)) (by decide +kernel) (by decide +kernel) (e0r hE (k := 16) (j := 9) (r := 17) (by decide +kernel))) ?_
  refine gm_c_virt (k := 17) (ci := 2) (mj := 108) (ix := 105) (pc := 7) (as := []) (st := []) (d' := d - 1) (bc' := 0) (bs' := 0) (by decide +kernel) (by decide +kernel) (by decide +kernel) (by decide +kernel) (e0k hE (k := 17) (c := 2) (by decide +kernel)).1 (e0k hE (k := 17) (c := 2) (by decide +kernel)).2 (by decide) (by decide +kernel) (show 0 = gm_na 108 by decide +kernel) fw_c0 (show 1 ≤ gm_ml 108 by decide +kernel) (Nat.le_of_ble_eq_true rfl) (by omega) (Nat.zero_le _) (Nat.zero_le _) ?_
  refine rw_full (s := (N 2)) (m := 8) (e0k hE (k := 17) (c := 2) (by decide +kernel)) (dr_2 hT) (hC (17, 0, 8) (by decide)) ⟨⟨by omega, by omega⟩, ⟨by decide, by decide⟩⟩ (fun f7 => ?_) (fun f7 => ?_)
  · show gm_Wp X LX d _ _ 107 10 _ [gm_vi 1] n K _ _ Q
    have f7 : 8 ≤ (N 2) := f7
    refine fw_iffd (cc := .eq) (pc := 10) (off := 11) (by decide +kernel) (by decide) ⟨by decide, by decide⟩ (by decide) ?_
    refine gm_sz (gm_p_load (pc := 13) (i := .aload_n 0) (sr := 2) (j := 0) (by decide +kernel) rfl rfl rfl) ?_
    refine gm_sz (fw_gr (pc := 14) (ix := 15) (ci := 7) (j := 0) (r := 214) (by decide +kernel) (e0k hE (k := 213) (c := 7) (by decide +kernel)) (by decide +kernel) (by decide +kernel) (e0r hE (k := 213) (j := 0) (r := 214) (by decide +kernel))) ?_
    refine gm_c_virt (k := 214) (ci := 8) (mj := 93) (ix := 76) (pc := 17) (as := []) (st := []) (d' := d - 1) (bc' := 0) (bs' := 0) (by decide +kernel) (by decide +kernel) (by decide +kernel) (by decide +kernel) (e0k hE (k := 214) (c := 8) (by decide +kernel)).1 (e0k hE (k := 214) (c := 8) (by decide +kernel)).2 (by decide) (by decide +kernel) (show 0 = gm_na 93 by decide +kernel) fw_c0 (show 1 ≤ gm_ml 93 by decide +kernel) (Nat.le_of_ble_eq_true rfl) (by omega) (Nat.zero_le _) (Nat.zero_le _) ?_
    refine vw_93 hE hF hV hb (fun M17 hf17 hv17 => ?_)
    show gm_Wp X LX d _ _ 107 20 _ [gm_vi 0] n K _ _ Q
    have ev : v_section f e N b = (false, b, N) := by
      unfold v_section
      rw [tif_t (show N 2 = 8 by omega)]
      first | done | rfl
    rw [ev] at q0
    exact gm_r_int (pc := 20) (by decide +kernel) (Or.inr ⟨(by decide +kernel), Or.inl rfl⟩) (q0 _ (fr_t fr_0 hf17 (by decide)) (cst_fr (W := [((214 : Nat), some (3 : Int)), ((214 : Nat), some (4 : Int)), ((214 : Nat), some (5 : Int)), ((214 : Nat), some (6 : Int)), ((214 : Nat), some (7 : Int))]) hC (fr_t fr_0 hf17 (by decide)) (by decide +kernel)) hv17 (fun h => by cases h))
  · show gm_Wp X LX d _ _ 107 10 _ [gm_vi 0] n K _ _ Q
    have f7 : (N 2) < 8 := f7
    refine fw_iftd (cc := .eq) (pc := 10) (off := 11) (by decide +kernel) (by decide) ⟨by decide, by decide⟩ (by decide) ?_
    refine gm_sz (gm_p_load (pc := 21) (i := .aload_n 0) (sr := 2) (j := 0) (by decide +kernel) rfl rfl rfl) ?_
    refine gm_sz (fw_gr (pc := 22) (ix := 15) (ci := 7) (j := 0) (r := 214) (by decide +kernel) (e0k hE (k := 213) (c := 7) (by decide +kernel)) (by decide +kernel) (by decide +kernel) (e0r hE (k := 213) (j := 0) (r := 214) (by decide +kernel))) ?_
    refine gm_c_virt (k := 214) (ci := 8) (mj := 76) (ix := 84) (pc := 25) (as := []) (st := []) (d' := d - 1) (bc' := 0) (bs' := 0) (by decide +kernel) (by decide +kernel) (by decide +kernel) (by decide +kernel) (e0k hE (k := 214) (c := 8) (by decide +kernel)).1 (e0k hE (k := 214) (c := 8) (by decide +kernel)).2 (by decide) (by decide +kernel) (show 0 = gm_na 76 by decide +kernel) fw_c0 (show 1 ≤ gm_ml 76 by decide +kernel) (Nat.le_of_ble_eq_true rfl) (by omega) (Nat.zero_le _) (Nat.zero_le _) ?_
    refine vw_76 (by omega) hE hF hV hb (fun M25 hf25 hv25 => ?_)
    show gm_Wp X LX d _ _ 107 28 _ [] n K _ _ Q
    have hb25 := tx_nb (f := f) (e := e) (b := b) hb.2
    have hb25 : 0 ≤ tx_n f e b ∧ tx_n f e b ≤ e := ⟨by have := hb.1; omega, hb25.2.1⟩
    refine gm_sz (gm_p_load (pc := 28) (i := .aload_n 0) (sr := 2) (j := 0) (by decide +kernel) rfl rfl rfl) ?_
    refine gm_sz (fw_gr (pc := 29) (ix := 9) (ci := 7) (j := 2) (r := 16) (by decide +kernel) (e0k hE (k := 213) (c := 7) (by decide +kernel)) (by decide +kernel) (by decide +kernel) (e0r hE (k := 213) (j := 2) (r := 16) (by decide +kernel))) ?_
    refine gm_sz (fw_gr (pc := 32) (ix := 101) (ci := 1) (j := 9) (r := 17) (by decide +kernel) (e0k hE (k := 16) (c := 1) (by decide +kernel)) (by decide +kernel) (by decide +kernel) (e0r hE (k := 16) (j := 9) (r := 17) (by decide +kernel))) ?_
    refine gm_c_virt (k := 17) (ci := 2) (mj := 9) (ix := 110) (pc := 35) (as := []) (st := []) (d' := d - 1) (bc' := 0) (bs' := 0) (by decide +kernel) (by decide +kernel) (by decide +kernel) (by decide +kernel) (e0k hE (k := 17) (c := 2) (by decide +kernel)).1 (e0k hE (k := 17) (c := 2) (by decide +kernel)).2 (by decide) (by decide +kernel) (show 0 = gm_na 9 by decide +kernel) fw_c0 (show 1 ≤ gm_ml 9 by decide +kernel) (Nat.le_of_ble_eq_true rfl) (by omega) (Nat.zero_le _) (Nat.zero_le _) ?_
    refine rw_size (s := (N 2)) (e0k hE (k := 17) (c := 2) (by decide +kernel)) ((fr_c hf25 (by decide)).trans (dr_2 hT)) ?_
    show gm_Wp X LX d _ _ 107 38 _ [gm_vi (N 2)] n K _ _ Q
    refine gm_sz (gm_p_const (pc := 38) (i := .iconst 1) (v := gm_vi 1) (by decide +kernel) (by decide +kernel)) ?_
    refine gm_sz (gm_p_bin (pc := 39) (i := .isub) (f := fun x y => x - y) (by decide +kernel) rfl) ?_
    refine gm_sz (gm_p_stor (pc := 40) (i := .istore_n 1) (sr := 0) (j := 1) (by decide +kernel) rfl (show 2 ≤ _ from Nat.le_of_ble_eq_true rfl) rfl) ?_
    refine gm_sz (gm_p_load (pc := 41) (i := .aload_n 0) (sr := 2) (j := 0) (by decide +kernel) rfl rfl rfl) ?_
    refine gm_sz (fw_gr (pc := 42) (ix := 9) (ci := 7) (j := 2) (r := 16) (by decide +kernel) (e0k hE (k := 213) (c := 7) (by decide +kernel)) (by decide +kernel) (by decide +kernel) (e0r hE (k := 213) (j := 2) (r := 16) (by decide +kernel))) ?_
    refine gm_sz (fw_gr (pc := 45) (ix := 101) (ci := 1) (j := 9) (r := 17) (by decide +kernel) (e0k hE (k := 16) (c := 1) (by decide +kernel)) (by decide +kernel) (by decide +kernel) (e0r hE (k := 16) (j := 9) (r := 17) (by decide +kernel))) ?_
    refine gm_sz (gm_p_load (pc := 48) (i := .iload_n 1) (sr := 0) (j := 1) (by decide +kernel) rfl rfl rfl) ?_
    refine gm_sz (gm_p_const (pc := 49) (i := .iconst 0) (v := gm_vi 0) (by decide +kernel) (by decide +kernel)) ?_
    refine gm_c_virt (k := 17) (ci := 2) (mj := 10) (ix := 114) (pc := 50) (as := [gm_vi ((N 2) - 1), gm_vi 0]) (st := []) (d' := d - 1) (bc' := 0) (bs' := 0) (by decide +kernel) (by decide +kernel) (by decide +kernel) (by decide +kernel) (e0k hE (k := 17) (c := 2) (by decide +kernel)).1 (e0k hE (k := 17) (c := 2) (by decide +kernel)).2 (by decide) (by decide +kernel) (show 2 = gm_na 10 by decide +kernel) (fw_c2 fw_si fw_si) (show 3 ≤ gm_ml 10 by decide +kernel) (Nat.le_of_ble_eq_true rfl) (by omega) (Nat.zero_le _) (Nat.zero_le _) ?_
    refine rw_get (s := (N 2)) (w := 7) (x := N (15 + (((N 2) - 1) * 7 + 0))) (e0k hE (k := 17) (c := 2) (by decide +kernel)) (e0a hE (k := 18) (q := ((0 : Nat), (56 : Nat))) (by decide +kernel)) (e0r hE (k := 17) (j := 2) (r := 18) (by decide +kernel)) (by decide) ((fr_c hf25 (by decide)).trans (dr_2 hT)) ((fr_c hf25 (by decide)).trans (hC (17, 1, 7) (by decide))) ⟨by omega, by omega⟩ ⟨by omega, by omega⟩ ⟨by omega, by omega⟩ ⟨by omega, by omega⟩ ((fr_c hf25 (by decide)).trans (dr_aS hT (by omega) (by omega))) ?_
    show gm_Wp X LX d _ _ 107 53 _ [gm_vi (N (15 + (((N 2) - 1) * 7 + 0)))] n K _ _ Q
    refine gm_sz (gm_p_const (pc := 53) (i := .iconst 1) (v := gm_vi 1) (by decide +kernel) (by decide +kernel)) ?_
    refine gm_sz (gm_p_bin (pc := 54) (i := .iadd) (f := fun x y => x + y) (by decide +kernel) rfl) ?_
    refine gm_sz (gm_p_stor (pc := 55) (i := .istore_n 2) (sr := 0) (j := 2) (by decide +kernel) rfl (show 3 ≤ _ from Nat.le_of_ble_eq_true rfl) rfl) ?_
    refine gm_sz (gm_p_load (pc := 56) (i := .aload_n 0) (sr := 2) (j := 0) (by decide +kernel) rfl rfl rfl) ?_
    refine gm_sz (fw_gr (pc := 57) (ix := 15) (ci := 7) (j := 0) (r := 214) (by decide +kernel) (e0k hE (k := 213) (c := 7) (by decide +kernel)) (by decide +kernel) (by decide +kernel) (e0r hE (k := 213) (j := 0) (r := 214) (by decide +kernel))) ?_
    refine gm_sz (gm_p_load (pc := 60) (i := .iload_n 2) (sr := 0) (j := 2) (by decide +kernel) rfl rfl rfl) ?_
    refine gm_sz (gm_p_load (pc := 61) (i := .iload_n 1) (sr := 0) (j := 1) (by decide +kernel) rfl rfl rfl) ?_
    refine fw_ift (cc := .ge) (pc := 62) (off := 7) (by decide +kernel) (by decide) ⟨by omega, by omega⟩ (show 0 ≤ ((N 2) - 1) by omega) ?_
    refine gm_sz (gm_p_load (pc := 69) (i := .aload_n 0) (sr := 2) (j := 0) (by decide +kernel) rfl rfl rfl) ?_
    refine gm_sz (fw_gr (pc := 70) (ix := 9) (ci := 7) (j := 2) (r := 16) (by decide +kernel) (e0k hE (k := 213) (c := 7) (by decide +kernel)) (by decide +kernel) (by decide +kernel) (e0r hE (k := 213) (j := 2) (r := 16) (by decide +kernel))) ?_
    refine gm_sz (fw_gi (pc := 73) (ix := 97) (ci := 1) (j := 1) (x := (N 1)) (by decide +kernel) (e0k hE (k := 16) (c := 1) (by decide +kernel)) (by decide +kernel) (by decide +kernel) ((fr_c hf25 (by decide)).trans (dr_1 hT))) ?_
    refine gm_sz (gm_p_const (pc := 76) (i := .iconst 1) (v := gm_vi 1) (by decide +kernel) (by decide +kernel)) ?_
    refine gm_sz (gm_p_bin (pc := 77) (i := .isub) (f := fun x y => x - y) (by decide +kernel) rfl) ?_
    refine gm_c_virt (k := 214) (ci := 8) (mj := 94) (ix := 88) (pc := 78) (as := [gm_vi ((N (15 + (((N 2) - 1) * 7 + 0))) + 1), gm_vi ((N 1) - 1)]) (st := []) (d' := d - 1) (bc' := 0) (bs' := 0) (by decide +kernel) (by decide +kernel) (by decide +kernel) (by decide +kernel) (e0k hE (k := 214) (c := 8) (by decide +kernel)).1 (e0k hE (k := 214) (c := 8) (by decide +kernel)).2 (by decide) (by decide +kernel) (show 2 = gm_na 94 by decide +kernel) (fw_c2 fw_si fw_si) (show 3 ≤ gm_ml 94 by decide +kernel) (Nat.le_of_ble_eq_true rfl) (by omega) (Nat.zero_le _) (Nat.zero_le _) ?_
    refine vw_94 (by omega) hE hF hv25 ⟨by omega, by omega⟩ ⟨by omega, by omega⟩ hb25 (fun h78 M78 hf78 hv78 => ?_) (fun h78 M78 hf78 hv78 => ?_)
    · show gm_Wp X LX d _ _ 107 81 _ [gm_vi (tx_v f e 4 (tx_n f e b))] n K _ _ Q
      have h78 : vn f e ((N (15 + (((N 2) - 1) * 7 + 0))) + 1) ((N 1) - 1) (tx_n f e b) := h78
      have hr78 : (N (15 + (((N 2) - 1) * 7 + 0))) + 1 ≤ tx_v f e 4 (tx_n f e b) ∧ tx_v f e 4 (tx_n f e b) ≤ (N 1) - 1 := h78.2
      have hb78 := tx_nb (f := f) (e := e) (b := (tx_n f e b)) hb25.2
      have hb78 : 0 ≤ tx_n f e (tx_n f e b) ∧ tx_n f e (tx_n f e b) ≤ e := ⟨by have := hb25.1; omega, hb78.2.1⟩
      refine gm_sz (gm_p_stor (pc := 81) (i := .istore_n 3) (sr := 0) (j := 3) (by decide +kernel) rfl (show 4 ≤ _ from Nat.le_of_ble_eq_true rfl) rfl) ?_
      refine gm_sz (gm_p_load (pc := 82) (i := .iload_n 3) (sr := 0) (j := 3) (by decide +kernel) rfl rfl rfl) ?_
      refine gm_sz (gm_p_const (pc := 83) (i := .iconst (-1)) (v := gm_vi (-1)) (by decide +kernel) (by decide +kernel)) ?_
      refine fw_ict (cc := .ne) (pc := 84) (off := 5) (by decide +kernel) (by decide) ⟨by omega, by omega⟩ ⟨by decide, by decide⟩ (show ¬ (tx_v f e 4 (tx_n f e b)) = (-1) by omega) ?_
      refine gm_sz (gm_p_load (pc := 89) (i := .aload_n 0) (sr := 2) (j := 0) (by decide +kernel) rfl rfl rfl) ?_
      refine gm_sz (fw_gr (pc := 90) (ix := 9) (ci := 7) (j := 2) (r := 16) (by decide +kernel) (e0k hE (k := 213) (c := 7) (by decide +kernel)) (by decide +kernel) (by decide +kernel) (e0r hE (k := 213) (j := 2) (r := 16) (by decide +kernel))) ?_
      refine gm_sz (fw_gr (pc := 93) (ix := 101) (ci := 1) (j := 9) (r := 17) (by decide +kernel) (e0k hE (k := 16) (c := 1) (by decide +kernel)) (by decide +kernel) (by decide +kernel) (e0r hE (k := 16) (j := 9) (r := 17) (by decide +kernel))) ?_
      refine gm_c_virt (k := 17) (ci := 2) (mj := 102) (ix := 117) (pc := 96) (as := []) (st := []) (d' := d - 1) (bc' := 0) (bs' := 0) (by decide +kernel) (by decide +kernel) (by decide +kernel) (by decide +kernel) (e0k hE (k := 17) (c := 2) (by decide +kernel)).1 (e0k hE (k := 17) (c := 2) (by decide +kernel)).2 (by decide) (by decide +kernel) (show 0 = gm_na 102 by decide +kernel) fw_c0 (show 1 ≤ gm_ml 102 by decide +kernel) (Nat.le_of_ble_eq_true rfl) (by omega) (Nat.zero_le _) (Nat.zero_le _) ?_
      refine rw_add (s := (N 2)) (m := 8) (e0k hE (k := 17) (c := 2) (by decide +kernel)) ((fr_c hf78 (by decide)).trans ((fr_c hf25 (by decide)).trans (dr_2 hT))) ((fr_c hf78 (by decide)).trans ((fr_c hf25 (by decide)).trans (hC (17, 0, 8) (by decide)))) ⟨by omega, by omega⟩ (by omega) ?_
      show gm_Wp X LX d _ _ 107 99 _ [gm_vi (N 2)] n K _ _ Q
      refine gm_sz (gm_p_stor (pc := 99) (i := .istore 4) (sr := 0) (j := 4) (by decide +kernel) rfl (show 5 ≤ _ from Nat.le_of_ble_eq_true rfl) rfl) ?_
      refine gm_sz (gm_p_load (pc := 101) (i := .aload_n 0) (sr := 2) (j := 0) (by decide +kernel) rfl rfl rfl) ?_
      refine gm_sz (fw_gr (pc := 102) (ix := 9) (ci := 7) (j := 2) (r := 16) (by decide +kernel) (e0k hE (k := 213) (c := 7) (by decide +kernel)) (by decide +kernel) (by decide +kernel) (e0r hE (k := 213) (j := 2) (r := 16) (by decide +kernel))) ?_
      refine gm_sz (fw_gr (pc := 105) (ix := 101) (ci := 1) (j := 9) (r := 17) (by decide +kernel) (e0k hE (k := 16) (c := 1) (by decide +kernel)) (by decide +kernel) (by decide +kernel) (e0r hE (k := 16) (j := 9) (r := 17) (by decide +kernel))) ?_
      refine gm_sz (gm_p_load (pc := 108) (i := .iload 4) (sr := 0) (j := 4) (by decide +kernel) rfl rfl rfl) ?_
      refine gm_sz (gm_p_const (pc := 110) (i := .iconst 0) (v := gm_vi 0) (by decide +kernel) (by decide +kernel)) ?_
      refine gm_sz (gm_p_load (pc := 111) (i := .iload_n 3) (sr := 0) (j := 3) (by decide +kernel) rfl rfl rfl) ?_
      refine gm_c_virt (k := 17) (ci := 2) (mj := 45) (ix := 120) (pc := 112) (as := [gm_vi (N 2), gm_vi 0, gm_vi (tx_v f e 4 (tx_n f e b))]) (st := []) (d' := d - 1) (bc' := 0) (bs' := 0) (by decide +kernel) (by decide +kernel) (by decide +kernel) (by decide +kernel) (e0k hE (k := 17) (c := 2) (by decide +kernel)).1 (e0k hE (k := 17) (c := 2) (by decide +kernel)).2 (by decide) (by decide +kernel) (show 3 = gm_na 45 by decide +kernel) (fw_c3 fw_si fw_si fw_si) (show 4 ≤ gm_ml 45 by decide +kernel) (Nat.le_of_ble_eq_true rfl) (by omega) (Nat.zero_le _) (Nat.zero_le _) ?_
      refine rw_put (s := (N 2) + 1) (w := 7) (e0k hE (k := 17) (c := 2) (by decide +kernel)) (e0a hE (k := 18) (q := ((0 : Nat), (56 : Nat))) (by decide +kernel)) (e0r hE (k := 17) (j := 2) (r := 18) (by decide +kernel)) (by decide) uM_at ((uM_ne (by omega)).trans ((fr_c hf78 (by decide)).trans ((fr_c hf25 (by decide)).trans (hC (17, 1, 7) (by decide))))) ⟨by omega, by omega⟩ ⟨by omega, by omega⟩ ⟨by omega, by omega⟩ ⟨by omega, by omega⟩ ?_
      show gm_Wp X LX d _ _ 107 115 _ [] n K _ _ Q
      refine gm_sz (gm_p_load (pc := 115) (i := .aload_n 0) (sr := 2) (j := 0) (by decide +kernel) rfl rfl rfl) ?_
      refine gm_sz (gm_p_load (pc := 116) (i := .aload_n 0) (sr := 2) (j := 0) (by decide +kernel) rfl rfl rfl) ?_
      refine gm_sz (fw_gr (pc := 117) (ix := 9) (ci := 7) (j := 2) (r := 16) (by decide +kernel) (e0k hE (k := 213) (c := 7) (by decide +kernel)) (by decide +kernel) (by decide +kernel) (e0r hE (k := 213) (j := 2) (r := 16) (by decide +kernel))) ?_
      refine gm_sz (fw_gr (pc := 120) (ix := 101) (ci := 1) (j := 9) (r := 17) (by decide +kernel) (e0k hE (k := 16) (c := 1) (by decide +kernel)) (by decide +kernel) (by decide +kernel) (e0r hE (k := 16) (j := 9) (r := 17) (by decide +kernel))) ?_
      refine gm_sz (gm_p_load (pc := 123) (i := .iload 4) (sr := 0) (j := 4) (by decide +kernel) rfl rfl rfl) ?_
      refine gm_sz (gm_p_const (pc := 125) (i := .iconst 1) (v := gm_vi 1) (by decide +kernel) (by decide +kernel)) ?_
      refine gm_c_virt (k := 213) (ci := 7) (mj := 109) (ix := 124) (pc := 126) (as := [gm_vr 17, gm_vi (N 2), gm_vi 1]) (st := []) (d' := d - 1) (bc' := 0) (bs' := 0) (by decide +kernel) (by decide +kernel) (by decide +kernel) (by decide +kernel) (e0k hE (k := 213) (c := 7) (by decide +kernel)).1 (e0k hE (k := 213) (c := 7) (by decide +kernel)).2 (by decide) (by decide +kernel) (show 3 = gm_na 109 by decide +kernel) (fw_c3 fw_sr fw_si fw_si) (show 4 ≤ gm_ml 109 by decide +kernel) (Nat.le_of_ble_eq_true rfl) (by omega) (Nat.zero_le _) (Nat.zero_le _) ?_
      refine vy_109e_17 (by omega) hE hF (N := (nup (nup N 2 ((N 2) + 1)) (15 + ((N 2) * 7 + 0)) (tx_v f e 4 (tx_n f e b)))) (r := (N 2)) (t := (N 0).toNat) ⟨by omega, by omega⟩ (by rw [nup_ne (by omega), nup_ne (by omega)]; omega) (by rw [nup_ne (by omega), nup_ne (by omega)]; omega) (by rw [nup_ne (by omega), nup_at]) (cst_fr (W := [((214 : Nat), some (3 : Int)), ((214 : Nat), some (4 : Int)), ((214 : Nat), some (5 : Int)), ((214 : Nat), some (6 : Int)), ((214 : Nat), some (7 : Int)), ((17 : Nat), some (3 : Int)), ((18 : Nat), none)]) hC (fr_p (fr_p (fr_t (fr_t fr_0 hf25 (by decide)) hf78 (by decide)) (Or.inr (by decide))) (Or.inl (by decide))) (by decide +kernel)) (vw_fr (W := [((17 : Nat), some (3 : Int)), ((18 : Nat), none)]) hv78 (fr_p (fr_p fr_0 (Or.inr (by decide))) (Or.inl (by decide))) (by decide)) hb78 ((cs_pS (b := 16) (by omega) (by omega)).trans (congrArg (fun V9 => nup V9 (15 + ((N 2) * 7 + 0)) (tx_v f e 4 (tx_n f e b))) ((cs_f2 (b := 16)).trans (congrArg (fun V9 => nup V9 2 ((N 2) + 1)) ((cs_frd hf78 (by decide)).trans ((cs_frd hf25 (by decide)).trans (hT))))))) (fun M126 g1 g2 g3 g4 g5 => ?_) (fun M126 g1 g2 g3 g5 => ?_)
      · show gm_Wp X LX d _ _ 107 129 _ [gm_vi 1] n K _ _ Q
        have ev : v_section f e N b = v_sp f e (N 0).toNat (nup (nup N 2 ((N 2) + 1)) (15 + ((N 2) * 7 + 0)) (tx_v f e 4 (tx_n f e b))) (15 + ((N 2) * 7 + (1 + 0))) (tx_n f e (tx_n f e b)) := by
          unfold v_section
          rw [tif_f (show ¬ N 2 = 8 by omega), tif_t (by rw [if_neg h2, if_neg h2]; exact h78)]
          first | done | rfl
        rw [ev] at q1 q0
        exact gm_r_int (pc := 129) (by decide +kernel) (Or.inr ⟨(by decide +kernel), Or.inr rfl⟩) (q1 _ (fr_t (fr_p (fr_p (fr_t (fr_t fr_0 hf25 (by decide)) hf78 (by decide)) (Or.inr (by decide))) (Or.inl (by decide))) g1 (by decide)) g2 g3 g4 g5)
      · show gm_Wp X LX d _ _ 107 129 _ [gm_vi 0] n K _ _ Q
        have ev : v_section f e N b = v_sp f e (N 0).toNat (nup (nup N 2 ((N 2) + 1)) (15 + ((N 2) * 7 + 0)) (tx_v f e 4 (tx_n f e b))) (15 + ((N 2) * 7 + (1 + 0))) (tx_n f e (tx_n f e b)) := by
          unfold v_section
          rw [tif_f (show ¬ N 2 = 8 by omega), tif_t (by rw [if_neg h2, if_neg h2]; exact h78)]
          first | done | rfl
        rw [ev] at q1 q0
        exact gm_r_int (pc := 129) (by decide +kernel) (Or.inr ⟨(by decide +kernel), Or.inl rfl⟩) (q0 _ (fr_t (fr_p (fr_p (fr_t (fr_t fr_0 hf25 (by decide)) hf78 (by decide)) (Or.inr (by decide))) (Or.inl (by decide))) g1 (by decide)) g2 g3 g5)
    · show gm_Wp X LX d _ _ 107 81 _ [gm_vi (-1)] n K _ _ Q
      have h78 : ¬ vn f e ((N (15 + (((N 2) - 1) * 7 + 0))) + 1) ((N 1) - 1) (tx_n f e b) := h78
      refine gm_sz (gm_p_stor (pc := 81) (i := .istore_n 3) (sr := 0) (j := 3) (by decide +kernel) rfl (show 4 ≤ _ from Nat.le_of_ble_eq_true rfl) rfl) ?_
      refine gm_sz (gm_p_load (pc := 82) (i := .iload_n 3) (sr := 0) (j := 3) (by decide +kernel) rfl rfl rfl) ?_
      refine gm_sz (gm_p_const (pc := 83) (i := .iconst (-1)) (v := gm_vi (-1)) (by decide +kernel) (by decide +kernel)) ?_
      refine fw_icfd (cc := .ne) (pc := 84) (off := 5) (by decide +kernel) (by decide) ⟨by decide, by decide⟩ ⟨by decide, by decide⟩ (by decide) ?_
      refine gm_sz (gm_p_const (pc := 87) (i := .iconst 0) (v := gm_vi 0) (by decide +kernel) (by decide +kernel)) ?_
      have ev : v_section f e N b = (false, (tx_n f e b), N) := by
        unfold v_section
        rw [tif_f (show ¬ N 2 = 8 by omega), tif_f (by rw [if_neg h2, if_neg h2]; exact h78)]
        first | done | rfl
      rw [ev] at q0
      exact gm_r_int (pc := 88) (by decide +kernel) (Or.inr ⟨(by decide +kernel), Or.inl rfl⟩) (q0 _ (fr_t (fr_t fr_0 hf25 (by decide)) hf78 (by decide)) (cst_fr (W := [((214 : Nat), some (3 : Int)), ((214 : Nat), some (4 : Int)), ((214 : Nat), some (5 : Int)), ((214 : Nat), some (6 : Int)), ((214 : Nat), some (7 : Int))]) hC (fr_t (fr_t fr_0 hf25 (by decide)) hf78 (by decide)) (by decide +kernel)) hv78 (fun h => by cases h))
theorem vy_120 (hd : 8 ≤ d) (hE : E0 n K R) (hC : CST M) (hF : VF f e) (hV : VW f e b (-1) M) (hb : 0 ≤ b ∧ b ≤ e) (hT : cs M 16 = N) (hN : NR N) (q1 : ∀ M2, fr [((214 : Nat), some (3 : Int)), ((214 : Nat), some (4 : Int)), ((214 : Nat), some (5 : Int)), ((214 : Nat), some (6 : Int)), ((214 : Nat), some (7 : Int)), ((16 : Nat), none), ((17 : Nat), some (3 : Int)), ((18 : Nat), none), ((19 : Nat), some (3 : Int)), ((20 : Nat), none), ((21 : Nat), some (3 : Int)), ((22 : Nat), none), ((23 : Nat), some (3 : Int)), ((24 : Nat), none), ((25 : Nat), some (3 : Int)), ((26 : Nat), none)] M M2 → CST M2 → VW f e (v_table f e N b).2.1 (-1) M2 → cs M2 16 = (v_table f e N b).2.2 → (v_table f e N b).1 = true → Q (.inl (some (gm_vi 1))) n K R M2) (q0 : ∀ M2, fr [((214 : Nat), some (3 : Int)), ((214 : Nat), some (4 : Int)), ((214 : Nat), some (5 : Int)), ((214 : Nat), some (6 : Int)), ((214 : Nat), some (7 : Int)), ((16 : Nat), none), ((17 : Nat), some (3 : Int)), ((18 : Nat), none), ((19 : Nat), some (3 : Int)), ((20 : Nat), none), ((21 : Nat), some (3 : Int)), ((22 : Nat), none), ((23 : Nat), some (3 : Int)), ((24 : Nat), none), ((25 : Nat), some (3 : Int)), ((26 : Nat), none)] M M2 → CST M2 → VW f e (v_table f e N b).2.1 (v_table f e N b).2.1 M2 → ¬ (v_table f e N b).1 = true → Q (.inl (some (gm_vi 0))) n K R M2) : gm_Wp X LX d bc bs 120 0 (gm_ent 120 [gm_vr 213]) [] n K R M Q := by
  obtain ⟨⟨⟨a0, b0⟩, ⟨a1, b1⟩, ⟨a10, b10⟩, ⟨a11, b11⟩, ⟨a12, b12⟩, a9, b9⟩, ⟨⟨a2, b2⟩, ⟨a5, b5⟩, ⟨a3, b3⟩, ⟨a4, b4⟩, ⟨a6, b6⟩, ⟨a14, b14⟩, ⟨a7, b7⟩, a13, b13⟩, rF, rP, rL⟩ := id hN
  refine gm_sz (gm_p_load (pc := 0) (i := .aload_n 0) (sr := 2) (j := 0) (by decide +kernel) rfl rfl rfl) ?_
  refine gm_sz (fw_gr (pc := 1) (ix := 9) (ci := 7) (j := 2) (r := 16) (by decide +kernel) (e0k hE (k := 213) (c := 7) (by decide +kernel)) (by decide +kernel) (by decide +kernel) (e0r hE (k := 213) (j := 2) (r := 16) (by decide +kernel))) ?_
  refine gm_sz (fw_gr (pc := 4) (ix := 164) (ci := 1) (j := 13) (r := 25) (by decide +kernel) (e0k hE (k := 16) (c := 1) (by decide +kernel)) (by decide +kernel) (by decide +kernel) (e0r hE (k := 16) (j := 13) (r := 25) (by decide +kernel))) ?_
  refine gm_c_virt (k := 25) (ci := 2) (mj := 108) (ix := 105) (pc := 7) (as := []) (st := []) (d' := d - 1) (bc' := 0) (bs' := 0) (by decide +kernel) (by decide +kernel) (by decide +kernel) (by decide +kernel) (e0k hE (k := 25) (c := 2) (by decide +kernel)).1 (e0k hE (k := 25) (c := 2) (by decide +kernel)).2 (by decide) (by decide +kernel) (show 0 = gm_na 108 by decide +kernel) fw_c0 (show 1 ≤ gm_ml 108 by decide +kernel) (Nat.le_of_ble_eq_true rfl) (by omega) (Nat.zero_le _) (Nat.zero_le _) ?_
  refine rw_full (s := (N 6)) (m := 6) (e0k hE (k := 25) (c := 2) (by decide +kernel)) (dr_6 hT) (hC (25, 0, 6) (by decide)) ⟨⟨by omega, by omega⟩, ⟨by decide, by decide⟩⟩ (fun f7 => ?_) (fun f7 => ?_)
  · show gm_Wp X LX d _ _ 120 10 _ [gm_vi 1] n K _ _ Q
    have f7 : 6 ≤ (N 6) := f7
    refine fw_iffd (cc := .eq) (pc := 10) (off := 11) (by decide +kernel) (by decide) ⟨by decide, by decide⟩ (by decide) ?_
    refine gm_sz (gm_p_load (pc := 13) (i := .aload_n 0) (sr := 2) (j := 0) (by decide +kernel) rfl rfl rfl) ?_
    refine gm_sz (fw_gr (pc := 14) (ix := 15) (ci := 7) (j := 0) (r := 214) (by decide +kernel) (e0k hE (k := 213) (c := 7) (by decide +kernel)) (by decide +kernel) (by decide +kernel) (e0r hE (k := 213) (j := 0) (r := 214) (by decide +kernel))) ?_
    refine gm_c_virt (k := 214) (ci := 8) (mj := 93) (ix := 76) (pc := 17) (as := []) (st := []) (d' := d - 1) (bc' := 0) (bs' := 0) (by decide +kernel) (by decide +kernel) (by decide +kernel) (by decide +kernel) (e0k hE (k := 214) (c := 8) (by decide +kernel)).1 (e0k hE (k := 214) (c := 8) (by decide +kernel)).2 (by decide) (by decide +kernel) (show 0 = gm_na 93 by decide +kernel) fw_c0 (show 1 ≤ gm_ml 93 by decide +kernel) (Nat.le_of_ble_eq_true rfl) (by omega) (Nat.zero_le _) (Nat.zero_le _) ?_
    refine vw_93 hE hF hV hb (fun M17 hf17 hv17 => ?_)
    show gm_Wp X LX d _ _ 120 20 _ [gm_vi 0] n K _ _ Q
    have ev : v_table f e N b = (false, b, N) := by
      unfold v_table
      rw [tif_t (show N 6 = 6 by omega)]
      first | done | rfl
    rw [ev] at q0
    exact gm_r_int (pc := 20) (by decide +kernel) (Or.inr ⟨(by decide +kernel), Or.inl rfl⟩) (q0 _ (fr_t fr_0 hf17 (by decide)) (cst_fr (W := [((214 : Nat), some (3 : Int)), ((214 : Nat), some (4 : Int)), ((214 : Nat), some (5 : Int)), ((214 : Nat), some (6 : Int)), ((214 : Nat), some (7 : Int))]) hC (fr_t fr_0 hf17 (by decide)) (by decide +kernel)) hv17 (fun h => by cases h))
  · show gm_Wp X LX d _ _ 120 10 _ [gm_vi 0] n K _ _ Q
    have f7 : (N 6) < 6 := f7
    refine fw_iftd (cc := .eq) (pc := 10) (off := 11) (by decide +kernel) (by decide) ⟨by decide, by decide⟩ (by decide) ?_
    refine gm_sz (gm_p_load (pc := 21) (i := .aload_n 0) (sr := 2) (j := 0) (by decide +kernel) rfl rfl rfl) ?_
    refine gm_sz (fw_gr (pc := 22) (ix := 15) (ci := 7) (j := 0) (r := 214) (by decide +kernel) (e0k hE (k := 213) (c := 7) (by decide +kernel)) (by decide +kernel) (by decide +kernel) (e0r hE (k := 213) (j := 0) (r := 214) (by decide +kernel))) ?_
    refine gm_c_virt (k := 214) (ci := 8) (mj := 76) (ix := 84) (pc := 25) (as := []) (st := []) (d' := d - 1) (bc' := 0) (bs' := 0) (by decide +kernel) (by decide +kernel) (by decide +kernel) (by decide +kernel) (e0k hE (k := 214) (c := 8) (by decide +kernel)).1 (e0k hE (k := 214) (c := 8) (by decide +kernel)).2 (by decide) (by decide +kernel) (show 0 = gm_na 76 by decide +kernel) fw_c0 (show 1 ≤ gm_ml 76 by decide +kernel) (Nat.le_of_ble_eq_true rfl) (by omega) (Nat.zero_le _) (Nat.zero_le _) ?_
    refine vw_76 (by omega) hE hF hV hb (fun M25 hf25 hv25 => ?_)
    show gm_Wp X LX d _ _ 120 28 _ [] n K _ _ Q
    have hb25 := tx_nb (f := f) (e := e) (b := b) hb.2
    have hb25 : 0 ≤ tx_n f e b ∧ tx_n f e b ≤ e := ⟨by have := hb.1; omega, hb25.2.1⟩
    refine gm_sz (gm_p_load (pc := 28) (i := .aload_n 0) (sr := 2) (j := 0) (by decide +kernel) rfl rfl rfl) ?_
    refine gm_sz (gm_p_load (pc := 29) (i := .aload_n 0) (sr := 2) (j := 0) (by decide +kernel) rfl rfl rfl) ?_
    refine gm_sz (fw_gr (pc := 30) (ix := 9) (ci := 7) (j := 2) (r := 16) (by decide +kernel) (e0k hE (k := 213) (c := 7) (by decide +kernel)) (by decide +kernel) (by decide +kernel) (e0r hE (k := 213) (j := 2) (r := 16) (by decide +kernel))) ?_
    refine gm_sz (fw_gr (pc := 33) (ix := 164) (ci := 1) (j := 13) (r := 25) (by decide +kernel) (e0k hE (k := 16) (c := 1) (by decide +kernel)) (by decide +kernel) (by decide +kernel) (e0r hE (k := 16) (j := 13) (r := 25) (by decide +kernel))) ?_
    refine gm_sz (gm_p_load (pc := 36) (i := .aload_n 0) (sr := 2) (j := 0) (by decide +kernel) rfl rfl rfl) ?_
    refine gm_sz (fw_gr (pc := 37) (ix := 9) (ci := 7) (j := 2) (r := 16) (by decide +kernel) (e0k hE (k := 213) (c := 7) (by decide +kernel)) (by decide +kernel) (by decide +kernel) (e0r hE (k := 213) (j := 2) (r := 16) (by decide +kernel))) ?_
    refine gm_sz (fw_gr (pc := 40) (ix := 164) (ci := 1) (j := 13) (r := 25) (by decide +kernel) (e0k hE (k := 16) (c := 1) (by decide +kernel)) (by decide +kernel) (by decide +kernel) (e0r hE (k := 16) (j := 13) (r := 25) (by decide +kernel))) ?_
    refine gm_c_virt (k := 25) (ci := 2) (mj := 102) (ix := 117) (pc := 43) (as := []) (st := [gm_vr 25, gm_vr 213]) (d' := d - 1) (bc' := 0) (bs' := 0) (by decide +kernel) (by decide +kernel) (by decide +kernel) (by decide +kernel) (e0k hE (k := 25) (c := 2) (by decide +kernel)).1 (e0k hE (k := 25) (c := 2) (by decide +kernel)).2 (by decide) (by decide +kernel) (show 0 = gm_na 102 by decide +kernel) fw_c0 (show 1 ≤ gm_ml 102 by decide +kernel) (Nat.le_of_ble_eq_true rfl) (by omega) (Nat.zero_le _) (Nat.zero_le _) ?_
    refine rw_add (s := (N 6)) (m := 6) (e0k hE (k := 25) (c := 2) (by decide +kernel)) ((fr_c hf25 (by decide)).trans (dr_6 hT)) ((fr_c hf25 (by decide)).trans (hC (25, 0, 6) (by decide))) ⟨by omega, by omega⟩ (by omega) ?_
    show gm_Wp X LX d _ _ 120 46 _ [gm_vi (N 6), gm_vr 25, gm_vr 213] n K _ _ Q
    refine gm_sz (gm_p_const (pc := 46) (i := .iconst 0) (v := gm_vi 0) (by decide +kernel) (by decide +kernel)) ?_
    refine gm_c_virt (k := 213) (ci := 7) (mj := 109) (ix := 124) (pc := 47) (as := [gm_vr 25, gm_vi (N 6), gm_vi 0]) (st := []) (d' := d - 1) (bc' := 0) (bs' := 0) (by decide +kernel) (by decide +kernel) (by decide +kernel) (by decide +kernel) (e0k hE (k := 213) (c := 7) (by decide +kernel)).1 (e0k hE (k := 213) (c := 7) (by decide +kernel)).2 (by decide) (by decide +kernel) (show 3 = gm_na 109 by decide +kernel) (fw_c3 fw_sr fw_si fw_si) (show 4 ≤ gm_ml 109 by decide +kernel) (Nat.le_of_ble_eq_true rfl) (by omega) (Nat.zero_le _) (Nat.zero_le _) ?_
    refine vy_109e_25 (by omega) hE hF (N := (nup N 6 ((N 6) + 1))) (r := (N 6)) (t := (N 0).toNat) ⟨by omega, by omega⟩ (by rw [nup_ne (by omega)]; omega) (by rw [nup_ne (by omega)]; omega) (by rw [nup_at]) (cst_fr (W := [((214 : Nat), some (3 : Int)), ((214 : Nat), some (4 : Int)), ((214 : Nat), some (5 : Int)), ((214 : Nat), some (6 : Int)), ((214 : Nat), some (7 : Int)), ((25 : Nat), some (3 : Int))]) hC (fr_p (fr_t fr_0 hf25 (by decide)) (Or.inr (by decide))) (by decide +kernel)) (vw_fr (W := [((25 : Nat), some (3 : Int))]) hv25 (fr_p fr_0 (Or.inr (by decide))) (by decide)) hb25 ((cs_f6 (b := 16)).trans (congrArg (fun V9 => nup V9 6 ((N 6) + 1)) ((cs_frd hf25 (by decide)).trans (hT)))) (fun M47 g1 g2 g3 g4 g5 => ?_) (fun M47 g1 g2 g3 g5 => ?_)
    · show gm_Wp X LX d _ _ 120 50 _ [gm_vi 1] n K _ _ Q
      have ev : v_table f e N b = v_sp f e (N 0).toNat (nup N 6 ((N 6) + 1)) (287 + ((N 6) * 6 + (0 + 0))) (tx_n f e b) := by
        unfold v_table
        rw [tif_f (show ¬ N 6 = 6 by omega)]
        first | done | rfl
      rw [ev] at q1 q0
      exact gm_r_int (pc := 50) (by decide +kernel) (Or.inr ⟨(by decide +kernel), Or.inr rfl⟩) (q1 _ (fr_t (fr_p (fr_t fr_0 hf25 (by decide)) (Or.inr (by decide))) g1 (by decide)) g2 g3 g4 g5)
    · show gm_Wp X LX d _ _ 120 50 _ [gm_vi 0] n K _ _ Q
      have ev : v_table f e N b = v_sp f e (N 0).toNat (nup N 6 ((N 6) + 1)) (287 + ((N 6) * 6 + (0 + 0))) (tx_n f e b) := by
        unfold v_table
        rw [tif_f (show ¬ N 6 = 6 by omega)]
        first | done | rfl
      rw [ev] at q1 q0
      exact gm_r_int (pc := 50) (by decide +kernel) (Or.inr ⟨(by decide +kernel), Or.inl rfl⟩) (q0 _ (fr_t (fr_p (fr_t fr_0 hf25 (by decide)) (Or.inr (by decide))) g1 (by decide)) g2 g3 g5)
theorem vy_107 (hd : 8 ≤ d) (hE : E0 n K R) (hC : CST M) (hF : VF f e) (hV : VW f e b (-1) M) (hb : 0 ≤ b ∧ b ≤ e) (hT : cs M 16 = N) (hN : NR N) (hS : NS N) (q1 : ∀ M2, fr [((214 : Nat), some (3 : Int)), ((214 : Nat), some (4 : Int)), ((214 : Nat), some (5 : Int)), ((214 : Nat), some (6 : Int)), ((214 : Nat), some (7 : Int)), ((16 : Nat), none), ((17 : Nat), some (3 : Int)), ((18 : Nat), none), ((19 : Nat), some (3 : Int)), ((20 : Nat), none), ((21 : Nat), some (3 : Int)), ((22 : Nat), none), ((23 : Nat), some (3 : Int)), ((24 : Nat), none), ((25 : Nat), some (3 : Int)), ((26 : Nat), none)] M M2 → CST M2 → VW f e (v_section f e N b).2.1 (-1) M2 → cs M2 16 = (v_section f e N b).2.2 → (v_section f e N b).1 = true → Q (.inl (some (gm_vi 1))) n K R M2) (q0 : ∀ M2, fr [((214 : Nat), some (3 : Int)), ((214 : Nat), some (4 : Int)), ((214 : Nat), some (5 : Int)), ((214 : Nat), some (6 : Int)), ((214 : Nat), some (7 : Int)), ((16 : Nat), none), ((17 : Nat), some (3 : Int)), ((18 : Nat), none), ((19 : Nat), some (3 : Int)), ((20 : Nat), none), ((21 : Nat), some (3 : Int)), ((22 : Nat), none), ((23 : Nat), some (3 : Int)), ((24 : Nat), none), ((25 : Nat), some (3 : Int)), ((26 : Nat), none)] M M2 → CST M2 → VW f e (v_section f e N b).2.1 (v_section f e N b).2.1 M2 → ¬ (v_section f e N b).1 = true → Q (.inl (some (gm_vi 0))) n K R M2) : gm_Wp X LX d bc bs 107 0 (gm_ent 107 [gm_vr 213]) [] n K R M Q := by
  by_cases h2 : N 2 = 0
  · exact vy_107a hd hE hC hF hV hb hT hN h2 q1 q0
  · exact vy_107b hd hE hC hF hV hb hT hN h2 hS q1 q0
theorem vy_103 (hd : 9 ≤ d) (hE : E0 n K R) (hC : CST M) (hF : VF f e) (hV : VW f e b (-1) M) (hb : 0 ≤ b ∧ b ≤ e) (hT : cs M 16 = N) (hN : NR N) (hS : NS N) (q1 : ∀ M2, fr [((214 : Nat), some (3 : Int)), ((214 : Nat), some (4 : Int)), ((214 : Nat), some (5 : Int)), ((214 : Nat), some (6 : Int)), ((214 : Nat), some (7 : Int)), ((16 : Nat), none), ((17 : Nat), some (3 : Int)), ((18 : Nat), none), ((19 : Nat), some (3 : Int)), ((20 : Nat), none), ((21 : Nat), some (3 : Int)), ((22 : Nat), none), ((23 : Nat), some (3 : Int)), ((24 : Nat), none), ((25 : Nat), some (3 : Int)), ((26 : Nat), none)] M M2 → CST M2 → VW f e (v_line f e N b).2.1 (-1) M2 → cs M2 16 = (v_line f e N b).2.2 → (v_line f e N b).1 = true → Q (.inl (some (gm_vi 1))) n K R M2) (q0 : ∀ M2, fr [((214 : Nat), some (3 : Int)), ((214 : Nat), some (4 : Int)), ((214 : Nat), some (5 : Int)), ((214 : Nat), some (6 : Int)), ((214 : Nat), some (7 : Int)), ((16 : Nat), none), ((17 : Nat), some (3 : Int)), ((18 : Nat), none), ((19 : Nat), some (3 : Int)), ((20 : Nat), none), ((21 : Nat), some (3 : Int)), ((22 : Nat), none), ((23 : Nat), some (3 : Int)), ((24 : Nat), none), ((25 : Nat), some (3 : Int)), ((26 : Nat), none)] M M2 → CST M2 → VW f e (v_line f e N b).2.1 (v_line f e N b).2.1 M2 → ¬ (v_line f e N b).1 = true → Q (.inl (some (gm_vi 0))) n K R M2) : gm_Wp X LX d bc bs 103 0 (gm_ent 103 [gm_vr 213]) [] n K R M Q := by
  refine gm_sz (gm_p_load (pc := 0) (i := .aload_n 0) (sr := 2) (j := 0) (by decide +kernel) rfl rfl rfl) ?_
  refine gm_sz (fw_gr (pc := 1) (ix := 15) (ci := 7) (j := 0) (r := 214) (by decide +kernel) (e0k hE (k := 213) (c := 7) (by decide +kernel)) (by decide +kernel) (by decide +kernel) (e0r hE (k := 213) (j := 0) (r := 214) (by decide +kernel))) ?_
  refine gm_sz (gm_p_ldcs (pc := 4) (i := .ldc 19) (ix := 19) (id := 17) (by decide +kernel) (Or.inl rfl) (by decide +kernel)) ?_
  refine gm_c_virt (k := 214) (ci := 8) (mj := 81) (ix := 21) (pc := 6) (as := [gm_vo 17]) (st := []) (d' := d - 1) (bc' := 0) (bs' := 0) (by decide +kernel) (by decide +kernel) (by decide +kernel) (by decide +kernel) (e0k hE (k := 214) (c := 8) (by decide +kernel)).1 (e0k hE (k := 214) (c := 8) (by decide +kernel)).2 (by decide) (by decide +kernel) (show 1 = gm_na 81 by decide +kernel) (fw_c1 fw_so) (show 2 ≤ gm_ml 81 by decide +kernel) (Nat.le_of_ble_eq_true rfl) (by omega) (Nat.zero_le _) (Nat.zero_le _) ?_
  refine vw_81 (by omega) hE hF hV (by decide) (show tx_o 17 = wv_lanes by decide +kernel) hb (fun h6 => ?_) (fun h6 => ?_)
  · show gm_Wp X LX d _ _ 103 9 _ [gm_vi 1] n K _ _ Q
    have h6 : tx_is f e b wv_lanes := h6
    refine fw_iffd (cc := .eq) (pc := 9) (off := 8) (by decide +kernel) (by decide) ⟨by decide, by decide⟩ (by decide) ?_
    refine gm_sz (gm_p_load (pc := 12) (i := .aload_n 0) (sr := 2) (j := 0) (by decide +kernel) rfl rfl rfl) ?_
    refine gm_c_virt (k := 213) (ci := 7) (mj := 104) (ix := 27) (pc := 13) (as := []) (st := []) (d' := d - 1) (bc' := 0) (bs' := 0) (by decide +kernel) (by decide +kernel) (by decide +kernel) (by decide +kernel) (e0k hE (k := 213) (c := 7) (by decide +kernel)).1 (e0k hE (k := 213) (c := 7) (by decide +kernel)).2 (by decide) (by decide +kernel) (show 0 = gm_na 104 by decide +kernel) fw_c0 (show 1 ≤ gm_ml 104 by decide +kernel) (Nat.le_of_ble_eq_true rfl) (by omega) (Nat.zero_le _) (Nat.zero_le _) ?_
    refine vy_104 (by omega) hE hC hF hV hb hT hN (fun M13 g1 g2 g3 g4 g5 => ?_) (fun M13 g1 g2 g3 g5 => ?_)
    · show gm_Wp X LX d _ _ 103 16 _ [gm_vi 1] n K _ _ Q
      have ev : v_line f e N b = v_lanes f e N b := by
        unfold v_line
        rw [tif_t h6]
      rw [ev] at q1 q0
      exact gm_r_int (pc := 16) (by decide +kernel) (Or.inr ⟨(by decide +kernel), Or.inr rfl⟩) (q1 _ g1 g2 g3 g4 g5)
    · show gm_Wp X LX d _ _ 103 16 _ [gm_vi 0] n K _ _ Q
      have ev : v_line f e N b = v_lanes f e N b := by
        unfold v_line
        rw [tif_t h6]
      rw [ev] at q1 q0
      exact gm_r_int (pc := 16) (by decide +kernel) (Or.inr ⟨(by decide +kernel), Or.inl rfl⟩) (q0 _ g1 g2 g3 g5)
  · show gm_Wp X LX d _ _ 103 9 _ [gm_vi 0] n K _ _ Q
    have h6 : ¬ tx_is f e b wv_lanes := h6
    refine fw_iftd (cc := .eq) (pc := 9) (off := 8) (by decide +kernel) (by decide) ⟨by decide, by decide⟩ (by decide) ?_
    refine gm_sz (gm_p_load (pc := 17) (i := .aload_n 0) (sr := 2) (j := 0) (by decide +kernel) rfl rfl rfl) ?_
    refine gm_sz (fw_gr (pc := 18) (ix := 15) (ci := 7) (j := 0) (r := 214) (by decide +kernel) (e0k hE (k := 213) (c := 7) (by decide +kernel)) (by decide +kernel) (by decide +kernel) (e0r hE (k := 213) (j := 0) (r := 214) (by decide +kernel))) ?_
    refine gm_sz (gm_p_ldcs (pc := 21) (i := .ldc 31) (ix := 31) (id := 18) (by decide +kernel) (Or.inl rfl) (by decide +kernel)) ?_
    refine gm_c_virt (k := 214) (ci := 8) (mj := 81) (ix := 21) (pc := 23) (as := [gm_vo 18]) (st := []) (d' := d - 1) (bc' := 0) (bs' := 0) (by decide +kernel) (by decide +kernel) (by decide +kernel) (by decide +kernel) (e0k hE (k := 214) (c := 8) (by decide +kernel)).1 (e0k hE (k := 214) (c := 8) (by decide +kernel)).2 (by decide) (by decide +kernel) (show 1 = gm_na 81 by decide +kernel) (fw_c1 fw_so) (show 2 ≤ gm_ml 81 by decide +kernel) (Nat.le_of_ble_eq_true rfl) (by omega) (Nat.zero_le _) (Nat.zero_le _) ?_
    refine vw_81 (by omega) hE hF hV (by decide) (show tx_o 18 = wv_last by decide +kernel) hb (fun h23 => ?_) (fun h23 => ?_)
    · show gm_Wp X LX d _ _ 103 26 _ [gm_vi 1] n K _ _ Q
      have h23 : tx_is f e b wv_last := h23
      refine fw_iffd (cc := .eq) (pc := 26) (off := 8) (by decide +kernel) (by decide) ⟨by decide, by decide⟩ (by decide) ?_
      refine gm_sz (gm_p_load (pc := 29) (i := .aload_n 0) (sr := 2) (j := 0) (by decide +kernel) rfl rfl rfl) ?_
      refine gm_c_virt (k := 213) (ci := 7) (mj := 106) (ix := 33) (pc := 30) (as := []) (st := []) (d' := d - 1) (bc' := 0) (bs' := 0) (by decide +kernel) (by decide +kernel) (by decide +kernel) (by decide +kernel) (e0k hE (k := 213) (c := 7) (by decide +kernel)).1 (e0k hE (k := 213) (c := 7) (by decide +kernel)).2 (by decide) (by decide +kernel) (show 0 = gm_na 106 by decide +kernel) fw_c0 (show 1 ≤ gm_ml 106 by decide +kernel) (Nat.le_of_ble_eq_true rfl) (by omega) (Nat.zero_le _) (Nat.zero_le _) ?_
      refine vy_106 (by omega) hE hC hF hV hb hT hN (fun M30 g1 g2 g3 g4 g5 => ?_) (fun M30 g1 g2 g3 g5 => ?_)
      · show gm_Wp X LX d _ _ 103 33 _ [gm_vi 1] n K _ _ Q
        have ev : v_line f e N b = v_last f e N b := by
          unfold v_line
          rw [tif_f h6, tif_t h23]
        rw [ev] at q1 q0
        exact gm_r_int (pc := 33) (by decide +kernel) (Or.inr ⟨(by decide +kernel), Or.inr rfl⟩) (q1 _ g1 g2 g3 g4 g5)
      · show gm_Wp X LX d _ _ 103 33 _ [gm_vi 0] n K _ _ Q
        have ev : v_line f e N b = v_last f e N b := by
          unfold v_line
          rw [tif_f h6, tif_t h23]
        rw [ev] at q1 q0
        exact gm_r_int (pc := 33) (by decide +kernel) (Or.inr ⟨(by decide +kernel), Or.inl rfl⟩) (q0 _ g1 g2 g3 g5)
    · show gm_Wp X LX d _ _ 103 26 _ [gm_vi 0] n K _ _ Q
      have h23 : ¬ tx_is f e b wv_last := h23
      refine fw_iftd (cc := .eq) (pc := 26) (off := 8) (by decide +kernel) (by decide) ⟨by decide, by decide⟩ (by decide) ?_
      refine gm_sz (gm_p_load (pc := 34) (i := .aload_n 0) (sr := 2) (j := 0) (by decide +kernel) rfl rfl rfl) ?_
      refine gm_sz (fw_gr (pc := 35) (ix := 15) (ci := 7) (j := 0) (r := 214) (by decide +kernel) (e0k hE (k := 213) (c := 7) (by decide +kernel)) (by decide +kernel) (by decide +kernel) (e0r hE (k := 213) (j := 0) (r := 214) (by decide +kernel))) ?_
      refine gm_sz (gm_p_ldcs (pc := 38) (i := .ldc 36) (ix := 36) (id := 19) (by decide +kernel) (Or.inl rfl) (by decide +kernel)) ?_
      refine gm_c_virt (k := 214) (ci := 8) (mj := 81) (ix := 21) (pc := 40) (as := [gm_vo 19]) (st := []) (d' := d - 1) (bc' := 0) (bs' := 0) (by decide +kernel) (by decide +kernel) (by decide +kernel) (by decide +kernel) (e0k hE (k := 214) (c := 8) (by decide +kernel)).1 (e0k hE (k := 214) (c := 8) (by decide +kernel)).2 (by decide) (by decide +kernel) (show 1 = gm_na 81 by decide +kernel) (fw_c1 fw_so) (show 2 ≤ gm_ml 81 by decide +kernel) (Nat.le_of_ble_eq_true rfl) (by omega) (Nat.zero_le _) (Nat.zero_le _) ?_
      refine vw_81 (by omega) hE hF hV (by decide) (show tx_o 19 = wv_section by decide +kernel) hb (fun h40 => ?_) (fun h40 => ?_)
      · show gm_Wp X LX d _ _ 103 43 _ [gm_vi 1] n K _ _ Q
        have h40 : tx_is f e b wv_section := h40
        refine fw_iffd (cc := .eq) (pc := 43) (off := 8) (by decide +kernel) (by decide) ⟨by decide, by decide⟩ (by decide) ?_
        refine gm_sz (gm_p_load (pc := 46) (i := .aload_n 0) (sr := 2) (j := 0) (by decide +kernel) rfl rfl rfl) ?_
        refine gm_c_virt (k := 213) (ci := 7) (mj := 107) (ix := 38) (pc := 47) (as := []) (st := []) (d' := d - 1) (bc' := 0) (bs' := 0) (by decide +kernel) (by decide +kernel) (by decide +kernel) (by decide +kernel) (e0k hE (k := 213) (c := 7) (by decide +kernel)).1 (e0k hE (k := 213) (c := 7) (by decide +kernel)).2 (by decide) (by decide +kernel) (show 0 = gm_na 107 by decide +kernel) fw_c0 (show 1 ≤ gm_ml 107 by decide +kernel) (Nat.le_of_ble_eq_true rfl) (by omega) (Nat.zero_le _) (Nat.zero_le _) ?_
        refine vy_107 (by omega) hE hC hF hV hb hT hN hS (fun M47 g1 g2 g3 g4 g5 => ?_) (fun M47 g1 g2 g3 g5 => ?_)
        · show gm_Wp X LX d _ _ 103 50 _ [gm_vi 1] n K _ _ Q
          have ev : v_line f e N b = v_section f e N b := by
            unfold v_line
            rw [tif_f h6, tif_f h23, tif_t h40]
          rw [ev] at q1 q0
          exact gm_r_int (pc := 50) (by decide +kernel) (Or.inr ⟨(by decide +kernel), Or.inr rfl⟩) (q1 _ g1 g2 g3 g4 g5)
        · show gm_Wp X LX d _ _ 103 50 _ [gm_vi 0] n K _ _ Q
          have ev : v_line f e N b = v_section f e N b := by
            unfold v_line
            rw [tif_f h6, tif_f h23, tif_t h40]
          rw [ev] at q1 q0
          exact gm_r_int (pc := 50) (by decide +kernel) (Or.inr ⟨(by decide +kernel), Or.inl rfl⟩) (q0 _ g1 g2 g3 g5)
      · show gm_Wp X LX d _ _ 103 43 _ [gm_vi 0] n K _ _ Q
        have h40 : ¬ tx_is f e b wv_section := h40
        refine fw_iftd (cc := .eq) (pc := 43) (off := 8) (by decide +kernel) (by decide) ⟨by decide, by decide⟩ (by decide) ?_
        refine gm_sz (gm_p_load (pc := 51) (i := .aload_n 0) (sr := 2) (j := 0) (by decide +kernel) rfl rfl rfl) ?_
        refine gm_sz (fw_gr (pc := 52) (ix := 15) (ci := 7) (j := 0) (r := 214) (by decide +kernel) (e0k hE (k := 213) (c := 7) (by decide +kernel)) (by decide +kernel) (by decide +kernel) (e0r hE (k := 213) (j := 0) (r := 214) (by decide +kernel))) ?_
        refine gm_sz (gm_p_ldcs (pc := 55) (i := .ldc 41) (ix := 41) (id := 20) (by decide +kernel) (Or.inl rfl) (by decide +kernel)) ?_
        refine gm_c_virt (k := 214) (ci := 8) (mj := 81) (ix := 21) (pc := 57) (as := [gm_vo 20]) (st := []) (d' := d - 1) (bc' := 0) (bs' := 0) (by decide +kernel) (by decide +kernel) (by decide +kernel) (by decide +kernel) (e0k hE (k := 214) (c := 8) (by decide +kernel)).1 (e0k hE (k := 214) (c := 8) (by decide +kernel)).2 (by decide) (by decide +kernel) (show 1 = gm_na 81 by decide +kernel) (fw_c1 fw_so) (show 2 ≤ gm_ml 81 by decide +kernel) (Nat.le_of_ble_eq_true rfl) (by omega) (Nat.zero_le _) (Nat.zero_le _) ?_
        refine vw_81 (by omega) hE hF hV (by decide) (show tx_o 20 = wv_snow by decide +kernel) hb (fun h57 => ?_) (fun h57 => ?_)
        · show gm_Wp X LX d _ _ 103 60 _ [gm_vi 1] n K _ _ Q
          have h57 : tx_is f e b wv_snow := h57
          refine fw_iffd (cc := .eq) (pc := 60) (off := 8) (by decide +kernel) (by decide) ⟨by decide, by decide⟩ (by decide) ?_
          refine gm_sz (gm_p_load (pc := 63) (i := .aload_n 0) (sr := 2) (j := 0) (by decide +kernel) rfl rfl rfl) ?_
          refine gm_c_virt (k := 213) (ci := 7) (mj := 110) (ix := 43) (pc := 64) (as := []) (st := []) (d' := d - 1) (bc' := 0) (bs' := 0) (by decide +kernel) (by decide +kernel) (by decide +kernel) (by decide +kernel) (e0k hE (k := 213) (c := 7) (by decide +kernel)).1 (e0k hE (k := 213) (c := 7) (by decide +kernel)).2 (by decide) (by decide +kernel) (show 0 = gm_na 110 by decide +kernel) fw_c0 (show 1 ≤ gm_ml 110 by decide +kernel) (Nat.le_of_ble_eq_true rfl) (by omega) (Nat.zero_le _) (Nat.zero_le _) ?_
          refine vy_110 (by omega) hE hC hF hV hb hT hN (fun M64 g1 g2 g3 g4 g5 => ?_) (fun M64 g1 g2 g3 g5 => ?_)
          · show gm_Wp X LX d _ _ 103 67 _ [gm_vi 1] n K _ _ Q
            have ev : v_line f e N b = v_snow f e N b := by
              unfold v_line
              rw [tif_f h6, tif_f h23, tif_f h40, tif_t h57]
            rw [ev] at q1 q0
            exact gm_r_int (pc := 67) (by decide +kernel) (Or.inr ⟨(by decide +kernel), Or.inr rfl⟩) (q1 _ g1 g2 g3 g4 g5)
          · show gm_Wp X LX d _ _ 103 67 _ [gm_vi 0] n K _ _ Q
            have ev : v_line f e N b = v_snow f e N b := by
              unfold v_line
              rw [tif_f h6, tif_f h23, tif_f h40, tif_t h57]
            rw [ev] at q1 q0
            exact gm_r_int (pc := 67) (by decide +kernel) (Or.inr ⟨(by decide +kernel), Or.inl rfl⟩) (q0 _ g1 g2 g3 g5)
        · show gm_Wp X LX d _ _ 103 60 _ [gm_vi 0] n K _ _ Q
          have h57 : ¬ tx_is f e b wv_snow := h57
          refine fw_iftd (cc := .eq) (pc := 60) (off := 8) (by decide +kernel) (by decide) ⟨by decide, by decide⟩ (by decide) ?_
          refine gm_sz (gm_p_load (pc := 68) (i := .aload_n 0) (sr := 2) (j := 0) (by decide +kernel) rfl rfl rfl) ?_
          refine gm_sz (fw_gr (pc := 69) (ix := 15) (ci := 7) (j := 0) (r := 214) (by decide +kernel) (e0k hE (k := 213) (c := 7) (by decide +kernel)) (by decide +kernel) (by decide +kernel) (e0r hE (k := 213) (j := 0) (r := 214) (by decide +kernel))) ?_
          refine gm_sz (gm_p_ldcs (pc := 72) (i := .ldc 46) (ix := 46) (id := 22) (by decide +kernel) (Or.inl rfl) (by decide +kernel)) ?_
          refine gm_c_virt (k := 214) (ci := 8) (mj := 81) (ix := 21) (pc := 74) (as := [gm_vo 22]) (st := []) (d' := d - 1) (bc' := 0) (bs' := 0) (by decide +kernel) (by decide +kernel) (by decide +kernel) (by decide +kernel) (e0k hE (k := 214) (c := 8) (by decide +kernel)).1 (e0k hE (k := 214) (c := 8) (by decide +kernel)).2 (by decide) (by decide +kernel) (show 1 = gm_na 81 by decide +kernel) (fw_c1 fw_so) (show 2 ≤ gm_ml 81 by decide +kernel) (Nat.le_of_ble_eq_true rfl) (by omega) (Nat.zero_le _) (Nat.zero_le _) ?_
          refine vw_81 (by omega) hE hF hV (by decide) (show tx_o 22 = wv_stripe by decide +kernel) hb (fun h74 => ?_) (fun h74 => ?_)
          · show gm_Wp X LX d _ _ 103 77 _ [gm_vi 1] n K _ _ Q
            have h74 : tx_is f e b wv_stripe := h74
            refine fw_iffd (cc := .eq) (pc := 77) (off := 8) (by decide +kernel) (by decide) ⟨by decide, by decide⟩ (by decide) ?_
            refine gm_sz (gm_p_load (pc := 80) (i := .aload_n 0) (sr := 2) (j := 0) (by decide +kernel) rfl rfl rfl) ?_
            refine gm_c_virt (k := 213) (ci := 7) (mj := 113) (ix := 48) (pc := 81) (as := []) (st := []) (d' := d - 1) (bc' := 0) (bs' := 0) (by decide +kernel) (by decide +kernel) (by decide +kernel) (by decide +kernel) (e0k hE (k := 213) (c := 7) (by decide +kernel)).1 (e0k hE (k := 213) (c := 7) (by decide +kernel)).2 (by decide) (by decide +kernel) (show 0 = gm_na 113 by decide +kernel) fw_c0 (show 1 ≤ gm_ml 113 by decide +kernel) (Nat.le_of_ble_eq_true rfl) (by omega) (Nat.zero_le _) (Nat.zero_le _) ?_
            refine vy_113 (by omega) hE hC hF hV hb hT hN (fun M81 g1 g2 g3 g4 g5 => ?_) (fun M81 g1 g2 g3 g5 => ?_)
            · show gm_Wp X LX d _ _ 103 84 _ [gm_vi 1] n K _ _ Q
              have ev : v_line f e N b = v_stripe f e N b := by
                unfold v_line
                rw [tif_f h6, tif_f h23, tif_f h40, tif_f h57, tif_t h74]
              rw [ev] at q1 q0
              exact gm_r_int (pc := 84) (by decide +kernel) (Or.inr ⟨(by decide +kernel), Or.inr rfl⟩) (q1 _ g1 g2 g3 g4 g5)
            · show gm_Wp X LX d _ _ 103 84 _ [gm_vi 0] n K _ _ Q
              have ev : v_line f e N b = v_stripe f e N b := by
                unfold v_line
                rw [tif_f h6, tif_f h23, tif_f h40, tif_f h57, tif_t h74]
              rw [ev] at q1 q0
              exact gm_r_int (pc := 84) (by decide +kernel) (Or.inr ⟨(by decide +kernel), Or.inl rfl⟩) (q0 _ g1 g2 g3 g5)
          · show gm_Wp X LX d _ _ 103 77 _ [gm_vi 0] n K _ _ Q
            have h74 : ¬ tx_is f e b wv_stripe := h74
            refine fw_iftd (cc := .eq) (pc := 77) (off := 8) (by decide +kernel) (by decide) ⟨by decide, by decide⟩ (by decide) ?_
            refine gm_sz (gm_p_load (pc := 85) (i := .aload_n 0) (sr := 2) (j := 0) (by decide +kernel) rfl rfl rfl) ?_
            refine gm_sz (fw_gr (pc := 86) (ix := 15) (ci := 7) (j := 0) (r := 214) (by decide +kernel) (e0k hE (k := 213) (c := 7) (by decide +kernel)) (by decide +kernel) (by decide +kernel) (e0r hE (k := 213) (j := 0) (r := 214) (by decide +kernel))) ?_
            refine gm_sz (gm_p_ldcs (pc := 89) (i := .ldc 51) (ix := 51) (id := 23) (by decide +kernel) (Or.inl rfl) (by decide +kernel)) ?_
            refine gm_c_virt (k := 214) (ci := 8) (mj := 81) (ix := 21) (pc := 91) (as := [gm_vo 23]) (st := []) (d' := d - 1) (bc' := 0) (bs' := 0) (by decide +kernel) (by decide +kernel) (by decide +kernel) (by decide +kernel) (e0k hE (k := 214) (c := 8) (by decide +kernel)).1 (e0k hE (k := 214) (c := 8) (by decide +kernel)).2 (by decide) (by decide +kernel) (show 1 = gm_na 81 by decide +kernel) (fw_c1 fw_so) (show 2 ≤ gm_ml 81 by decide +kernel) (Nat.le_of_ble_eq_true rfl) (by omega) (Nat.zero_le _) (Nat.zero_le _) ?_
            refine vw_81 (by omega) hE hF hV (by decide) (show tx_o 23 = wv_seed by decide +kernel) hb (fun h91 => ?_) (fun h91 => ?_)
            · show gm_Wp X LX d _ _ 103 94 _ [gm_vi 1] n K _ _ Q
              have h91 : tx_is f e b wv_seed := h91
              refine fw_iffd (cc := .eq) (pc := 94) (off := 8) (by decide +kernel) (by decide) ⟨by decide, by decide⟩ (by decide) ?_
              refine gm_sz (gm_p_load (pc := 97) (i := .aload_n 0) (sr := 2) (j := 0) (by decide +kernel) rfl rfl rfl) ?_
              refine gm_c_virt (k := 213) (ci := 7) (mj := 114) (ix := 53) (pc := 98) (as := []) (st := []) (d' := d - 1) (bc' := 0) (bs' := 0) (by decide +kernel) (by decide +kernel) (by decide +kernel) (by decide +kernel) (e0k hE (k := 213) (c := 7) (by decide +kernel)).1 (e0k hE (k := 213) (c := 7) (by decide +kernel)).2 (by decide) (by decide +kernel) (show 0 = gm_na 114 by decide +kernel) fw_c0 (show 1 ≤ gm_ml 114 by decide +kernel) (Nat.le_of_ble_eq_true rfl) (by omega) (Nat.zero_le _) (Nat.zero_le _) ?_
              refine vy_114 (by omega) hE hC hF hV hb hT hN (fun M98 g1 g2 g3 g4 g5 => ?_) (fun M98 g1 g2 g3 g5 => ?_)
              · show gm_Wp X LX d _ _ 103 101 _ [gm_vi 1] n K _ _ Q
                have ev : v_line f e N b = v_seed f e N b := by
                  unfold v_line
                  rw [tif_f h6, tif_f h23, tif_f h40, tif_f h57, tif_f h74, tif_t h91]
                rw [ev] at q1 q0
                exact gm_r_int (pc := 101) (by decide +kernel) (Or.inr ⟨(by decide +kernel), Or.inr rfl⟩) (q1 _ g1 g2 g3 g4 g5)
              · show gm_Wp X LX d _ _ 103 101 _ [gm_vi 0] n K _ _ Q
                have ev : v_line f e N b = v_seed f e N b := by
                  unfold v_line
                  rw [tif_f h6, tif_f h23, tif_f h40, tif_f h57, tif_f h74, tif_t h91]
                rw [ev] at q1 q0
                exact gm_r_int (pc := 101) (by decide +kernel) (Or.inr ⟨(by decide +kernel), Or.inl rfl⟩) (q0 _ g1 g2 g3 g5)
            · show gm_Wp X LX d _ _ 103 94 _ [gm_vi 0] n K _ _ Q
              have h91 : ¬ tx_is f e b wv_seed := h91
              refine fw_iftd (cc := .eq) (pc := 94) (off := 8) (by decide +kernel) (by decide) ⟨by decide, by decide⟩ (by decide) ?_
              refine gm_sz (gm_p_load (pc := 102) (i := .aload_n 0) (sr := 2) (j := 0) (by decide +kernel) rfl rfl rfl) ?_
              refine gm_sz (fw_gr (pc := 103) (ix := 15) (ci := 7) (j := 0) (r := 214) (by decide +kernel) (e0k hE (k := 213) (c := 7) (by decide +kernel)) (by decide +kernel) (by decide +kernel) (e0r hE (k := 213) (j := 0) (r := 214) (by decide +kernel))) ?_
              refine gm_sz (gm_p_ldcs (pc := 106) (i := .ldc 56) (ix := 56) (id := 24) (by decide +kernel) (Or.inl rfl) (by decide +kernel)) ?_
              refine gm_c_virt (k := 214) (ci := 8) (mj := 81) (ix := 21) (pc := 108) (as := [gm_vo 24]) (st := []) (d' := d - 1) (bc' := 0) (bs' := 0) (by decide +kernel) (by decide +kernel) (by decide +kernel) (by decide +kernel) (e0k hE (k := 214) (c := 8) (by decide +kernel)).1 (e0k hE (k := 214) (c := 8) (by decide +kernel)).2 (by decide) (by decide +kernel) (show 1 = gm_na 81 by decide +kernel) (fw_c1 fw_so) (show 2 ≤ gm_ml 81 by decide +kernel) (Nat.le_of_ble_eq_true rfl) (by omega) (Nat.zero_le _) (Nat.zero_le _) ?_
              refine vw_81 (by omega) hE hF hV (by decide) (show tx_o 24 = wv_flood by decide +kernel) hb (fun h108 => ?_) (fun h108 => ?_)
              · show gm_Wp X LX d _ _ 103 111 _ [gm_vi 1] n K _ _ Q
                have h108 : tx_is f e b wv_flood := h108
                refine fw_iffd (cc := .eq) (pc := 111) (off := 8) (by decide +kernel) (by decide) ⟨by decide, by decide⟩ (by decide) ?_
                refine gm_sz (gm_p_load (pc := 114) (i := .aload_n 0) (sr := 2) (j := 0) (by decide +kernel) rfl rfl rfl) ?_
                refine gm_c_virt (k := 213) (ci := 7) (mj := 115) (ix := 58) (pc := 115) (as := []) (st := []) (d' := d - 1) (bc' := 0) (bs' := 0) (by decide +kernel) (by decide +kernel) (by decide +kernel) (by decide +kernel) (e0k hE (k := 213) (c := 7) (by decide +kernel)).1 (e0k hE (k := 213) (c := 7) (by decide +kernel)).2 (by decide) (by decide +kernel) (show 0 = gm_na 115 by decide +kernel) fw_c0 (show 1 ≤ gm_ml 115 by decide +kernel) (Nat.le_of_ble_eq_true rfl) (by omega) (Nat.zero_le _) (Nat.zero_le _) ?_
                refine vy_115 (by omega) hE hC hF hV hb hT hN (fun M115 g1 g2 g3 g4 g5 => ?_) (fun M115 g1 g2 g3 g5 => ?_)
                · show gm_Wp X LX d _ _ 103 118 _ [gm_vi 1] n K _ _ Q
                  have ev : v_line f e N b = v_flood f e N b := by
                    unfold v_line
                    rw [tif_f h6, tif_f h23, tif_f h40, tif_f h57, tif_f h74, tif_f h91, tif_t h108]
                  rw [ev] at q1 q0
                  exact gm_r_int (pc := 118) (by decide +kernel) (Or.inr ⟨(by decide +kernel), Or.inr rfl⟩) (q1 _ g1 g2 g3 g4 g5)
                · show gm_Wp X LX d _ _ 103 118 _ [gm_vi 0] n K _ _ Q
                  have ev : v_line f e N b = v_flood f e N b := by
                    unfold v_line
                    rw [tif_f h6, tif_f h23, tif_f h40, tif_f h57, tif_f h74, tif_f h91, tif_t h108]
                  rw [ev] at q1 q0
                  exact gm_r_int (pc := 118) (by decide +kernel) (Or.inr ⟨(by decide +kernel), Or.inl rfl⟩) (q0 _ g1 g2 g3 g5)
              · show gm_Wp X LX d _ _ 103 111 _ [gm_vi 0] n K _ _ Q
                have h108 : ¬ tx_is f e b wv_flood := h108
                refine fw_iftd (cc := .eq) (pc := 111) (off := 8) (by decide +kernel) (by decide) ⟨by decide, by decide⟩ (by decide) ?_
                refine gm_sz (gm_p_load (pc := 119) (i := .aload_n 0) (sr := 2) (j := 0) (by decide +kernel) rfl rfl rfl) ?_
                refine gm_sz (fw_gr (pc := 120) (ix := 15) (ci := 7) (j := 0) (r := 214) (by decide +kernel) (e0k hE (k := 213) (c := 7) (by decide +kernel)) (by decide +kernel) (by decide +kernel) (e0r hE (k := 213) (j := 0) (r := 214) (by decide +kernel))) ?_
                refine gm_sz (gm_p_ldcs (pc := 123) (i := .ldc 61) (ix := 61) (id := 25) (by decide +kernel) (Or.inl rfl) (by decide +kernel)) ?_
                refine gm_c_virt (k := 214) (ci := 8) (mj := 81) (ix := 21) (pc := 125) (as := [gm_vo 25]) (st := []) (d' := d - 1) (bc' := 0) (bs' := 0) (by decide +kernel) (by decide +kernel) (by decide +kernel) (by decide +kernel) (e0k hE (k := 214) (c := 8) (by decide +kernel)).1 (e0k hE (k := 214) (c := 8) (by decide +kernel)).2 (by decide) (by decide +kernel) (show 1 = gm_na 81 by decide +kernel) (fw_c1 fw_so) (show 2 ≤ gm_ml 81 by decide +kernel) (Nat.le_of_ble_eq_true rfl) (by omega) (Nat.zero_le _) (Nat.zero_le _) ?_
                refine vw_81 (by omega) hE hF hV (by decide) (show tx_o 25 = wv_person by decide +kernel) hb (fun h125 => ?_) (fun h125 => ?_)
                · show gm_Wp X LX d _ _ 103 128 _ [gm_vi 1] n K _ _ Q
                  have h125 : tx_is f e b wv_person := h125
                  refine fw_iffd (cc := .eq) (pc := 128) (off := 8) (by decide +kernel) (by decide) ⟨by decide, by decide⟩ (by decide) ?_
                  refine gm_sz (gm_p_load (pc := 131) (i := .aload_n 0) (sr := 2) (j := 0) (by decide +kernel) rfl rfl rfl) ?_
                  refine gm_c_virt (k := 213) (ci := 7) (mj := 116) (ix := 63) (pc := 132) (as := []) (st := []) (d' := d - 1) (bc' := 0) (bs' := 0) (by decide +kernel) (by decide +kernel) (by decide +kernel) (by decide +kernel) (e0k hE (k := 213) (c := 7) (by decide +kernel)).1 (e0k hE (k := 213) (c := 7) (by decide +kernel)).2 (by decide) (by decide +kernel) (show 0 = gm_na 116 by decide +kernel) fw_c0 (show 1 ≤ gm_ml 116 by decide +kernel) (Nat.le_of_ble_eq_true rfl) (by omega) (Nat.zero_le _) (Nat.zero_le _) ?_
                  refine vy_116 (by omega) hE hC hF hV hb hT hN (fun M132 g1 g2 g3 g4 g5 => ?_) (fun M132 g1 g2 g3 g5 => ?_)
                  · show gm_Wp X LX d _ _ 103 135 _ [gm_vi 1] n K _ _ Q
                    have ev : v_line f e N b = v_person f e N b := by
                      unfold v_line
                      rw [tif_f h6, tif_f h23, tif_f h40, tif_f h57, tif_f h74, tif_f h91, tif_f h108, tif_t h125]
                    rw [ev] at q1 q0
                    exact gm_r_int (pc := 135) (by decide +kernel) (Or.inr ⟨(by decide +kernel), Or.inr rfl⟩) (q1 _ g1 g2 g3 g4 g5)
                  · show gm_Wp X LX d _ _ 103 135 _ [gm_vi 0] n K _ _ Q
                    have ev : v_line f e N b = v_person f e N b := by
                      unfold v_line
                      rw [tif_f h6, tif_f h23, tif_f h40, tif_f h57, tif_f h74, tif_f h91, tif_f h108, tif_t h125]
                    rw [ev] at q1 q0
                    exact gm_r_int (pc := 135) (by decide +kernel) (Or.inr ⟨(by decide +kernel), Or.inl rfl⟩) (q0 _ g1 g2 g3 g5)
                · show gm_Wp X LX d _ _ 103 128 _ [gm_vi 0] n K _ _ Q
                  have h125 : ¬ tx_is f e b wv_person := h125
                  refine fw_iftd (cc := .eq) (pc := 128) (off := 8) (by decide +kernel) (by decide) ⟨by decide, by decide⟩ (by decide) ?_
                  refine gm_sz (gm_p_load (pc := 136) (i := .aload_n 0) (sr := 2) (j := 0) (by decide +kernel) rfl rfl rfl) ?_
                  refine gm_sz (fw_gr (pc := 137) (ix := 15) (ci := 7) (j := 0) (r := 214) (by decide +kernel) (e0k hE (k := 213) (c := 7) (by decide +kernel)) (by decide +kernel) (by decide +kernel) (e0r hE (k := 213) (j := 0) (r := 214) (by decide +kernel))) ?_
                  refine gm_sz (gm_p_ldcs (pc := 140) (i := .ldc 66) (ix := 66) (id := 27) (by decide +kernel) (Or.inl rfl) (by decide +kernel)) ?_
                  refine gm_c_virt (k := 214) (ci := 8) (mj := 81) (ix := 21) (pc := 142) (as := [gm_vo 27]) (st := []) (d' := d - 1) (bc' := 0) (bs' := 0) (by decide +kernel) (by decide +kernel) (by decide +kernel) (by decide +kernel) (e0k hE (k := 214) (c := 8) (by decide +kernel)).1 (e0k hE (k := 214) (c := 8) (by decide +kernel)).2 (by decide) (by decide +kernel) (show 1 = gm_na 81 by decide +kernel) (fw_c1 fw_so) (show 2 ≤ gm_ml 81 by decide +kernel) (Nat.le_of_ble_eq_true rfl) (by omega) (Nat.zero_le _) (Nat.zero_le _) ?_
                  refine vw_81 (by omega) hE hF hV (by decide) (show tx_o 27 = wv_rock by decide +kernel) hb (fun h142 => ?_) (fun h142 => ?_)
                  · show gm_Wp X LX d _ _ 103 145 _ [gm_vi 1] n K _ _ Q
                    have h142 : tx_is f e b wv_rock := h142
                    refine fw_iffd (cc := .eq) (pc := 145) (off := 8) (by decide +kernel) (by decide) ⟨by decide, by decide⟩ (by decide) ?_
                    refine gm_sz (gm_p_load (pc := 148) (i := .aload_n 0) (sr := 2) (j := 0) (by decide +kernel) rfl rfl rfl) ?_
                    refine gm_c_virt (k := 213) (ci := 7) (mj := 118) (ix := 68) (pc := 149) (as := []) (st := []) (d' := d - 1) (bc' := 0) (bs' := 0) (by decide +kernel) (by decide +kernel) (by decide +kernel) (by decide +kernel) (e0k hE (k := 213) (c := 7) (by decide +kernel)).1 (e0k hE (k := 213) (c := 7) (by decide +kernel)).2 (by decide) (by decide +kernel) (show 0 = gm_na 118 by decide +kernel) fw_c0 (show 1 ≤ gm_ml 118 by decide +kernel) (Nat.le_of_ble_eq_true rfl) (by omega) (Nat.zero_le _) (Nat.zero_le _) ?_
                    refine vy_118 (by omega) hE hC hF hV hb hT hN (fun M149 g1 g2 g3 g4 g5 => ?_) (fun M149 g1 g2 g3 g5 => ?_)
                    · show gm_Wp X LX d _ _ 103 152 _ [gm_vi 1] n K _ _ Q
                      have ev : v_line f e N b = v_rock f e N b := by
                        unfold v_line
                        rw [tif_f h6, tif_f h23, tif_f h40, tif_f h57, tif_f h74, tif_f h91, tif_f h108, tif_f h125, tif_t h142]
                      rw [ev] at q1 q0
                      exact gm_r_int (pc := 152) (by decide +kernel) (Or.inr ⟨(by decide +kernel), Or.inr rfl⟩) (q1 _ g1 g2 g3 g4 g5)
                    · show gm_Wp X LX d _ _ 103 152 _ [gm_vi 0] n K _ _ Q
                      have ev : v_line f e N b = v_rock f e N b := by
                        unfold v_line
                        rw [tif_f h6, tif_f h23, tif_f h40, tif_f h57, tif_f h74, tif_f h91, tif_f h108, tif_f h125, tif_t h142]
                      rw [ev] at q1 q0
                      exact gm_r_int (pc := 152) (by decide +kernel) (Or.inr ⟨(by decide +kernel), Or.inl rfl⟩) (q0 _ g1 g2 g3 g5)
                  · show gm_Wp X LX d _ _ 103 145 _ [gm_vi 0] n K _ _ Q
                    have h142 : ¬ tx_is f e b wv_rock := h142
                    refine fw_iftd (cc := .eq) (pc := 145) (off := 8) (by decide +kernel) (by decide) ⟨by decide, by decide⟩ (by decide) ?_
                    refine gm_sz (gm_p_load (pc := 153) (i := .aload_n 0) (sr := 2) (j := 0) (by decide +kernel) rfl rfl rfl) ?_
                    refine gm_sz (fw_gr (pc := 154) (ix := 15) (ci := 7) (j := 0) (r := 214) (by decide +kernel) (e0k hE (k := 213) (c := 7) (by decide +kernel)) (by decide +kernel) (by decide +kernel) (e0r hE (k := 213) (j := 0) (r := 214) (by decide +kernel))) ?_
                    refine gm_sz (gm_p_ldcs (pc := 157) (i := .ldc 71) (ix := 71) (id := 28) (by decide +kernel) (Or.inl rfl) (by decide +kernel)) ?_
                    refine gm_c_virt (k := 214) (ci := 8) (mj := 81) (ix := 21) (pc := 159) (as := [gm_vo 28]) (st := []) (d' := d - 1) (bc' := 0) (bs' := 0) (by decide +kernel) (by decide +kernel) (by decide +kernel) (by decide +kernel) (e0k hE (k := 214) (c := 8) (by decide +kernel)).1 (e0k hE (k := 214) (c := 8) (by decide +kernel)).2 (by decide) (by decide +kernel) (show 1 = gm_na 81 by decide +kernel) (fw_c1 fw_so) (show 2 ≤ gm_ml 81 by decide +kernel) (Nat.le_of_ble_eq_true rfl) (by omega) (Nat.zero_le _) (Nat.zero_le _) ?_
                    refine vw_81 (by omega) hE hF hV (by decide) (show tx_o 28 = wv_table by decide +kernel) hb (fun h159 => ?_) (fun h159 => ?_)
                    · show gm_Wp X LX d _ _ 103 162 _ [gm_vi 1] n K _ _ Q
                      have h159 : tx_is f e b wv_table := h159
                      refine fw_iffd (cc := .eq) (pc := 162) (off := 8) (by decide +kernel) (by decide) ⟨by decide, by decide⟩ (by decide) ?_
                      refine gm_sz (gm_p_load (pc := 165) (i := .aload_n 0) (sr := 2) (j := 0) (by decide +kernel) rfl rfl rfl) ?_
                      refine gm_c_virt (k := 213) (ci := 7) (mj := 120) (ix := 73) (pc := 166) (as := []) (st := []) (d' := d - 1) (bc' := 0) (bs' := 0) (by decide +kernel) (by decide +kernel) (by decide +kernel) (by decide +kernel) (e0k hE (k := 213) (c := 7) (by decide +kernel)).1 (e0k hE (k := 213) (c := 7) (by decide +kernel)).2 (by decide) (by decide +kernel) (show 0 = gm_na 120 by decide +kernel) fw_c0 (show 1 ≤ gm_ml 120 by decide +kernel) (Nat.le_of_ble_eq_true rfl) (by omega) (Nat.zero_le _) (Nat.zero_le _) ?_
                      refine vy_120 (by omega) hE hC hF hV hb hT hN (fun M166 g1 g2 g3 g4 g5 => ?_) (fun M166 g1 g2 g3 g5 => ?_)
                      · show gm_Wp X LX d _ _ 103 169 _ [gm_vi 1] n K _ _ Q
                        have ev : v_line f e N b = v_table f e N b := by
                          unfold v_line
                          rw [tif_f h6, tif_f h23, tif_f h40, tif_f h57, tif_f h74, tif_f h91, tif_f h108, tif_f h125, tif_f h142, tif_t h159]
                        rw [ev] at q1 q0
                        exact gm_r_int (pc := 169) (by decide +kernel) (Or.inr ⟨(by decide +kernel), Or.inr rfl⟩) (q1 _ g1 g2 g3 g4 g5)
                      · show gm_Wp X LX d _ _ 103 169 _ [gm_vi 0] n K _ _ Q
                        have ev : v_line f e N b = v_table f e N b := by
                          unfold v_line
                          rw [tif_f h6, tif_f h23, tif_f h40, tif_f h57, tif_f h74, tif_f h91, tif_f h108, tif_f h125, tif_f h142, tif_t h159]
                        rw [ev] at q1 q0
                        exact gm_r_int (pc := 169) (by decide +kernel) (Or.inr ⟨(by decide +kernel), Or.inl rfl⟩) (q0 _ g1 g2 g3 g5)
                    · show gm_Wp X LX d _ _ 103 162 _ [gm_vi 0] n K _ _ Q
                      have h159 : ¬ tx_is f e b wv_table := h159
                      refine fw_iftd (cc := .eq) (pc := 162) (off := 8) (by decide +kernel) (by decide) ⟨by decide, by decide⟩ (by decide) ?_
                      refine gm_sz (gm_p_load (pc := 170) (i := .aload_n 0) (sr := 2) (j := 0) (by decide +kernel) rfl rfl rfl) ?_
                      refine gm_sz (fw_gr (pc := 171) (ix := 15) (ci := 7) (j := 0) (r := 214) (by decide +kernel) (e0k hE (k := 213) (c := 7) (by decide +kernel)) (by decide +kernel) (by decide +kernel) (e0r hE (k := 213) (j := 0) (r := 214) (by decide +kernel))) ?_
                      refine gm_c_virt (k := 214) (ci := 8) (mj := 93) (ix := 76) (pc := 174) (as := []) (st := []) (d' := d - 1) (bc' := 0) (bs' := 0) (by decide +kernel) (by decide +kernel) (by decide +kernel) (by decide +kernel) (e0k hE (k := 214) (c := 8) (by decide +kernel)).1 (e0k hE (k := 214) (c := 8) (by decide +kernel)).2 (by decide) (by decide +kernel) (show 0 = gm_na 93 by decide +kernel) fw_c0 (show 1 ≤ gm_ml 93 by decide +kernel) (Nat.le_of_ble_eq_true rfl) (by omega) (Nat.zero_le _) (Nat.zero_le _) ?_
                      refine vw_93 hE hF hV hb (fun M174 hf174 hv174 => ?_)
                      show gm_Wp X LX d _ _ 103 177 _ [gm_vi 0] n K _ _ Q
                      have ev : v_line f e N b = (false, b, N) := by
                        unfold v_line
                        rw [tif_f h6, tif_f h23, tif_f h40, tif_f h57, tif_f h74, tif_f h91, tif_f h108, tif_f h125, tif_f h142, tif_f h159]
                      rw [ev] at q0
                      exact gm_r_int (pc := 177) (by decide +kernel) (Or.inr ⟨(by decide +kernel), Or.inl rfl⟩) (q0 _ (fr_t fr_0 hf174 (by decide)) (cst_fr (W := [((214 : Nat), some (3 : Int)), ((214 : Nat), some (4 : Int)), ((214 : Nat), some (5 : Int)), ((214 : Nat), some (6 : Int)), ((214 : Nat), some (7 : Int))]) hC (fr_t fr_0 hf174 (by decide)) (by decide +kernel)) hv174 (fun h => by cases h))
theorem vy_72l (hd : 10 ≤ d) (hE : E0 n K R) (hF : VF f e) (y : Int) : ∀ (t : Nat) (i b : Int) (N : Int → Int) (M : gm_M), i + t = 14 → 0 ≤ i → CST M → VW f e b (-1) M → 0 ≤ b ∧ b ≤ e → cs M 16 = N → GI N → (∀ M2, fr [((214 : Nat), some (3 : Int)), ((214 : Nat), some (4 : Int)), ((214 : Nat), some (5 : Int)), ((214 : Nat), some (6 : Int)), ((214 : Nat), some (7 : Int)), ((16 : Nat), none), ((17 : Nat), some (3 : Int)), ((18 : Nat), none), ((19 : Nat), some (3 : Int)), ((20 : Nat), none), ((21 : Nat), some (3 : Int)), ((22 : Nat), none), ((23 : Nat), some (3 : Int)), ((24 : Nat), none), ((25 : Nat), some (3 : Int)), ((26 : Nat), none)] M M2 → CST M2 → cs M2 16 = (v_txt f e t N b).2.2 → (v_txt f e t N b).1 = true → Q (.inl (some (gm_vi (-1)))) n K R M2) → (∀ M2, fr [((214 : Nat), some (3 : Int)), ((214 : Nat), some (4 : Int)), ((214 : Nat), some (5 : Int)), ((214 : Nat), some (6 : Int)), ((214 : Nat), some (7 : Int)), ((16 : Nat), none), ((17 : Nat), some (3 : Int)), ((18 : Nat), none), ((19 : Nat), some (3 : Int)), ((20 : Nat), none), ((21 : Nat), some (3 : Int)), ((22 : Nat), none), ((23 : Nat), some (3 : Int)), ((24 : Nat), none), ((25 : Nat), some (3 : Int)), ((26 : Nat), none)] M M2 → CST M2 → ¬ (v_txt f e t N b).1 = true → Q (.inl (some (gm_vi (v_txt f e t N b).2.1))) n K R M2) → gm_Wp X LX d bc bs 72 29 [some (gm_vr 213), some (gm_vi y), some (gm_vi i)] [] n K R M Q := by
  intro t
  induction t with
  | zero =>
    intro i b N M hi h0 hC hV hb hT hG q1 q0
    obtain rfl : i = 14 := by omega
    refine gm_sz (gm_p_load (pc := 29) (i := .iload_n 2) (sr := 0) (j := 2) (by decide +kernel) rfl rfl rfl) ?_
    refine gm_sz (gm_p_load (pc := 30) (i := .aload_n 0) (sr := 2) (j := 0) (by decide +kernel) rfl rfl rfl) ?_
    refine gm_sz (fw_gi (pc := 31) (ix := 20) (ci := 7) (j := 1) (x := 14) (by decide +kernel) (e0k hE (k := 213) (c := 7) (by decide +kernel)) (by decide +kernel) (by decide +kernel) (hV.2.1.2.1)) ?_
    refine fw_ictd (cc := .ge) (pc := 34) (off := 49) (by decide +kernel) (by decide) ⟨by decide, by decide⟩ ⟨by decide, by decide⟩ (by decide) ?_
    refine gm_sz (gm_p_load (pc := 83) (i := .aload_n 0) (sr := 2) (j := 0) (by decide +kernel) rfl rfl rfl) ?_
    refine gm_sz (fw_gr (pc := 84) (ix := 14) (ci := 7) (j := 0) (r := 214) (by decide +kernel) (e0k hE (k := 213) (c := 7) (by decide +kernel)) (by decide +kernel) (by decide +kernel) (e0r hE (k := 213) (j := 0) (r := 214) (by decide +kernel))) ?_
    refine gm_c_virt (k := 214) (ci := 8) (mj := 93) (ix := 46) (pc := 87) (as := []) (st := []) (d' := d - 1) (bc' := 0) (bs' := 0) (by decide +kernel) (by decide +kernel) (by decide +kernel) (by decide +kernel) (e0k hE (k := 214) (c := 8) (by decide +kernel)).1 (e0k hE (k := 214) (c := 8) (by decide +kernel)).2 (by decide) (by decide +kernel) (show 0 = gm_na 93 by decide +kernel) fw_c0 (show 1 ≤ gm_ml 93 by decide +kernel) (Nat.le_of_ble_eq_true rfl) (by omega) (Nat.zero_le _) (Nat.zero_le _) ?_
    refine vw_93 hE hF hV hb (fun M87 hf87 hv87 => ?_)
    show gm_Wp X LX d _ _ 72 90 _ [gm_vi 0] n K _ _ Q
    refine gm_sz (gm_p_pop (pc := 90) (by decide +kernel) fw_si) ?_
    refine gm_sz (gm_p_load (pc := 91) (i := .aload_n 0) (sr := 2) (j := 0) (by decide +kernel) rfl rfl rfl) ?_
    refine gm_sz (fw_gr (pc := 92) (ix := 14) (ci := 7) (j := 0) (r := 214) (by decide +kernel) (e0k hE (k := 213) (c := 7) (by decide +kernel)) (by decide +kernel) (by decide +kernel) (e0r hE (k := 213) (j := 0) (r := 214) (by decide +kernel))) ?_
    refine gm_c_virt (k := 214) (ci := 8) (mj := 121) (ix := 42) (pc := 95) (as := []) (st := []) (d' := d - 1) (bc' := 0) (bs' := 0) (by decide +kernel) (by decide +kernel) (by decide +kernel) (by decide +kernel) (e0k hE (k := 214) (c := 8) (by decide +kernel)).1 (e0k hE (k := 214) (c := 8) (by decide +kernel)).2 (by decide) (by decide +kernel) (show 0 = gm_na 121 by decide +kernel) fw_c0 (show 1 ≤ gm_ml 121 by decide +kernel) (Nat.le_of_ble_eq_true rfl) (by omega) (Nat.zero_le _) (Nat.zero_le _) ?_
    refine vw_121 hE hF hv87 ?_
    show gm_Wp X LX d _ _ 72 98 _ [gm_vi b] n K _ _ Q
    exact gm_r_int (pc := 98) (by decide +kernel) (Or.inl (by decide +kernel)) (q0 _ (fr_t fr_0 hf87 (by decide)) (cst_fr (W := [((214 : Nat), some (3 : Int)), ((214 : Nat), some (4 : Int)), ((214 : Nat), some (5 : Int)), ((214 : Nat), some (6 : Int)), ((214 : Nat), some (7 : Int))]) hC (fr_t fr_0 hf87 (by decide)) (by decide +kernel)) (fun h => by cases h))
  | succ t ih =>
    intro i b N M hi h0 hC hV hb hT hG q1 q0
    have hN := hG.1
    have hS := hG.2.1
    have hvb := v_line_b (f := f) (N := N) hb
    have hvk : (v_line f e N b).1 = true → GI (v_line f e N b).2.2 := fun h => v_line_g hG hb h
    have hkc := tx_kc (f := f) (e := e) (b := (v_line f e N b).2.1) (fun h => hF.2 _ (by omega) (by have := hF.1; omega))
    refine gm_sz (gm_p_load (pc := 29) (i := .iload_n 2) (sr := 0) (j := 2) (by decide +kernel) rfl rfl rfl) ?_
    refine gm_sz (gm_p_load (pc := 30) (i := .aload_n 0) (sr := 2) (j := 0) (by decide +kernel) rfl rfl rfl) ?_
    refine gm_sz (fw_gi (pc := 31) (ix := 20) (ci := 7) (j := 1) (x := 14) (by decide +kernel) (e0k hE (k := 213) (c := 7) (by decide +kernel)) (by decide +kernel) (by decide +kernel) (hV.2.1.2.1)) ?_
    refine fw_icf (cc := .ge) (pc := 34) (off := 49) (by decide +kernel) (by decide) ⟨by omega, by omega⟩ ⟨by decide, by decide⟩ (show ¬ 14 ≤ i by omega) ?_
    refine gm_sz (gm_p_load (pc := 37) (i := .aload_n 0) (sr := 2) (j := 0) (by decide +kernel) rfl rfl rfl) ?_
    refine gm_c_up (k := 213) (ci := 7) (mj := 103) (ix := 34) (pc := 38) (as := []) (st := []) (d' := d - 1) (bc' := 0) (bs' := 0) (by decide +kernel) (by decide +kernel) (by decide +kernel) (e0k hE (k := 213) (c := 7) (by decide +kernel)).1 (e0k hE (k := 213) (c := 7) (by decide +kernel)).2 (show 0 = gm_na 103 by decide +kernel) fw_c0 (show 1 ≤ gm_ml 103 by decide +kernel) (Nat.le_of_ble_eq_true rfl) (by omega) (Nat.zero_le _) (Nat.zero_le _) ?_
    refine vy_103 (by omega) hE hC hF hV hb hT hN hS (fun M38 g1 g2 g3 g4 g5 => ?_) (fun M38 g1 g2 g3 g5 => ?_)
    · show gm_Wp X LX d _ _ 72 41 _ [gm_vi 1] n K _ _ Q
      refine fw_iffd (cc := .eq) (pc := 41) (off := 28) (by decide +kernel) (by decide) ⟨by decide, by decide⟩ (by decide) ?_
      refine gm_sz (gm_p_load (pc := 44) (i := .aload_n 0) (sr := 2) (j := 0) (by decide +kernel) rfl rfl rfl) ?_
      refine gm_sz (fw_gr (pc := 45) (ix := 14) (ci := 7) (j := 0) (r := 214) (by decide +kernel) (e0k hE (k := 213) (c := 7) (by decide +kernel)) (by decide +kernel) (by decide +kernel) (e0r hE (k := 213) (j := 0) (r := 214) (by decide +kernel))) ?_
      refine gm_sz (fw_gi (pc := 48) (ix := 31) (ci := 8) (j := 6) (x := (tx_k f e (v_line f e N b).2.1)) (by decide +kernel) (e0k hE (k := 214) (c := 8) (by decide +kernel)) (by decide +kernel) (by decide +kernel) g3.2.2.2.2.2.1) ?_
      refine gm_sz (gm_p_const (pc := 51) (i := .sipush 256) (v := gm_vi 256) (by decide +kernel) (by decide +kernel)) ?_
      refine fw_ic (cc := .eq) (pc := 54) (off := 15) (by decide +kernel) (by decide) ⟨by omega, by omega⟩ ⟨by decide, by decide⟩ (fun h54 => ?_) (fun h54 => ?_)
      · have h54 : (tx_k f e (v_line f e N b).2.1) = 256 := h54
        refine gm_sz (gm_p_load (pc := 69) (i := .aload_n 0) (sr := 2) (j := 0) (by decide +kernel) rfl rfl rfl) ?_
        refine gm_sz (fw_gr (pc := 70) (ix := 14) (ci := 7) (j := 0) (r := 214) (by decide +kernel) (e0k hE (k := 213) (c := 7) (by decide +kernel)) (by decide +kernel) (by decide +kernel) (e0r hE (k := 213) (j := 0) (r := 214) (by decide +kernel))) ?_
        refine gm_c_virt (k := 214) (ci := 8) (mj := 121) (ix := 42) (pc := 73) (as := []) (st := []) (d' := d - 1) (bc' := 0) (bs' := 0) (by decide +kernel) (by decide +kernel) (by decide +kernel) (by decide +kernel) (e0k hE (k := 214) (c := 8) (by decide +kernel)).1 (e0k hE (k := 214) (c := 8) (by decide +kernel)).2 (by decide) (by decide +kernel) (show 0 = gm_na 121 by decide +kernel) fw_c0 (show 1 ≤ gm_ml 121 by decide +kernel) (Nat.le_of_ble_eq_true rfl) (by omega) (Nat.zero_le _) (Nat.zero_le _) ?_
        refine vw_121 hE hF g3 ?_
        show gm_Wp X LX d _ _ 72 76 _ [gm_vi (-1)] n K _ _ Q
        have ev : v_txt f e (t + 1) N b = (v_line f e N b) := by
          show tif _ _ _ = _
          rw [tif_t g5, tif_t h54]
        rw [ev] at q1
        exact gm_r_int (pc := 76) (by decide +kernel) (Or.inl (by decide +kernel)) (q1 _ (fr_t fr_0 g1 (by decide)) g2 g4 g5)
      · have h54 : ¬ (tx_k f e (v_line f e N b).2.1) = 256 := h54
        refine gm_sz (gm_p_load (pc := 57) (i := .aload_n 0) (sr := 2) (j := 0) (by decide +kernel) rfl rfl rfl) ?_
        refine gm_sz (fw_gr (pc := 58) (ix := 14) (ci := 7) (j := 0) (r := 214) (by decide +kernel) (e0k hE (k := 213) (c := 7) (by decide +kernel)) (by decide +kernel) (by decide +kernel) (e0r hE (k := 213) (j := 0) (r := 214) (by decide +kernel))) ?_
        refine gm_sz (gm_p_const (pc := 61) (i := .bipush 59) (v := gm_vi 59) (by decide +kernel) (by decide +kernel)) ?_
        refine gm_c_virt (k := 214) (ci := 8) (mj := 98) (ix := 38) (pc := 63) (as := [gm_vi 59]) (st := []) (d' := d - 1) (bc' := 0) (bs' := 0) (by decide +kernel) (by decide +kernel) (by decide +kernel) (by decide +kernel) (e0k hE (k := 214) (c := 8) (by decide +kernel)).1 (e0k hE (k := 214) (c := 8) (by decide +kernel)).2 (by decide) (by decide +kernel) (show 1 = gm_na 98 by decide +kernel) (fw_c1 fw_si) (show 2 ≤ gm_ml 98 by decide +kernel) (Nat.le_of_ble_eq_true rfl) (by omega) (Nat.zero_le _) (Nat.zero_le _) ?_
        refine vw_98 (by omega) hE hF g3 ⟨by decide, by decide⟩ (show 0 ≤ (v_line f e N b).2.1 ∧ (v_line f e N b).2.1 ≤ e from ⟨by omega, hvb.2⟩) (fun h63 M63 hf63 hv63 => ?_) (fun h63 M63 hf63 hv63 => ?_)
        · show gm_Wp X LX d _ _ 72 66 _ [gm_vi 1] n K _ _ Q
          have h63 : tx_k f e ((v_line f e N b).2.1) = 59 := h63
          have hb63 := tx_nb (f := f) (e := e) (b := (v_line f e N b).2.1) (show 0 ≤ (v_line f e N b).2.1 ∧ (v_line f e N b).2.1 ≤ e from ⟨by omega, hvb.2⟩).2
          have hb63 : 0 ≤ tx_n f e ((v_line f e N b).2.1) ∧ tx_n f e ((v_line f e N b).2.1) ≤ e := ⟨by have := (show 0 ≤ (v_line f e N b).2.1 ∧ (v_line f e N b).2.1 ≤ e from ⟨by omega, hvb.2⟩).1; omega, hb63.2.1⟩
          refine fw_iftd (cc := .ne) (pc := 66) (off := 11) (by decide +kernel) (by decide) ⟨by decide, by decide⟩ (by decide) ?_
          refine gm_sz (gm_p_iinc (pc := 77) (j := 2) (z := 1) (by decide +kernel) rfl) ?_
          refine gm_sz (gm_p_goto (pc := 80) (off := (-51)) (by decide +kernel) (by decide)) ?_
          have ev : v_txt f e (t + 1) N b = v_txt f e t (v_line f e N b).2.2 (tx_n f e (v_line f e N b).2.1) := by
            show tif _ _ _ = _
            rw [tif_t g5, tif_f h54, tif_t h63]
          rw [ev] at q1 q0
          exact ih (i + 1) _ (v_line f e N b).2.2 _ (by omega) (by omega) (cst_fr (W := [((214 : Nat), some (3 : Int)), ((214 : Nat), some (4 : Int)), ((214 : Nat), some (5 : Int)), ((214 : Nat), some (6 : Int)), ((214 : Nat), some (7 : Int)), ((16 : Nat), none), ((17 : Nat), some (3 : Int)), ((18 : Nat), none), ((19 : Nat), some (3 : Int)), ((20 : Nat), none), ((21 : Nat), some (3 : Int)), ((22 : Nat), none), ((23 : Nat), some (3 : Int)), ((24 : Nat), none), ((25 : Nat), some (3 : Int)), ((26 : Nat), none)]) hC (fr_t (fr_t fr_0 g1 (by decide)) hf63 (by decide)) (by decide +kernel)) hv63 hb63 ((cs_frd hf63 (by decide)).trans (g4)) (hvk g5) (fun M2 k1 k2 k4 k5 => q1 M2 (fr_t (fr_t (fr_t fr_0 g1 (by decide)) hf63 (by decide)) k1 (by decide)) k2 k4 k5) (fun M2 k1 k2 k5 => q0 M2 (fr_t (fr_t (fr_t fr_0 g1 (by decide)) hf63 (by decide)) k1 (by decide)) k2 k5)
        · show gm_Wp X LX d _ _ 72 66 _ [gm_vi 0] n K _ _ Q
          have h63 : ¬ tx_k f e ((v_line f e N b).2.1) = 59 := h63
          refine fw_iffd (cc := .ne) (pc := 66) (off := 11) (by decide +kernel) (by decide) ⟨by decide, by decide⟩ (by decide) ?_
          refine gm_sz (gm_p_load (pc := 69) (i := .aload_n 0) (sr := 2) (j := 0) (by decide +kernel) rfl rfl rfl) ?_
          refine gm_sz (fw_gr (pc := 70) (ix := 14) (ci := 7) (j := 0) (r := 214) (by decide +kernel) (e0k hE (k := 213) (c := 7) (by decide +kernel)) (by decide +kernel) (by decide +kernel) (e0r hE (k := 213) (j := 0) (r := 214) (by decide +kernel))) ?_
          refine gm_c_virt (k := 214) (ci := 8) (mj := 121) (ix := 42) (pc := 73) (as := []) (st := []) (d' := d - 1) (bc' := 0) (bs' := 0) (by decide +kernel) (by decide +kernel) (by decide +kernel) (by decide +kernel) (e0k hE (k := 214) (c := 8) (by decide +kernel)).1 (e0k hE (k := 214) (c := 8) (by decide +kernel)).2 (by decide) (by decide +kernel) (show 0 = gm_na 121 by decide +kernel) fw_c0 (show 1 ≤ gm_ml 121 by decide +kernel) (Nat.le_of_ble_eq_true rfl) (by omega) (Nat.zero_le _) (Nat.zero_le _) ?_
          refine vw_121 hE hF hv63 ?_
          show gm_Wp X LX d _ _ 72 76 _ [gm_vi ((v_line f e N b).2.1)] n K _ _ Q
          have ev : v_txt f e (t + 1) N b = (false, (v_line f e N b).2.1, N) := by
            show tif _ _ _ = _
            rw [tif_t g5, tif_f h54, tif_f h63]
          rw [ev] at q0
          exact gm_r_int (pc := 76) (by decide +kernel) (Or.inl (by decide +kernel)) (q0 _ (fr_t (fr_t fr_0 g1 (by decide)) hf63 (by decide)) (cst_fr (W := [((214 : Nat), some (3 : Int)), ((214 : Nat), some (4 : Int)), ((214 : Nat), some (5 : Int)), ((214 : Nat), some (6 : Int)), ((214 : Nat), some (7 : Int)), ((16 : Nat), none), ((17 : Nat), some (3 : Int)), ((18 : Nat), none), ((19 : Nat), some (3 : Int)), ((20 : Nat), none), ((21 : Nat), some (3 : Int)), ((22 : Nat), none), ((23 : Nat), some (3 : Int)), ((24 : Nat), none), ((25 : Nat), some (3 : Int)), ((26 : Nat), none)]) hC (fr_t (fr_t fr_0 g1 (by decide)) hf63 (by decide)) (by decide +kernel)) (fun h => by cases h))
    · show gm_Wp X LX d _ _ 72 41 _ [gm_vi 0] n K _ _ Q
      refine fw_iftd (cc := .eq) (pc := 41) (off := 28) (by decide +kernel) (by decide) ⟨by decide, by decide⟩ (by decide) ?_
      refine gm_sz (gm_p_load (pc := 69) (i := .aload_n 0) (sr := 2) (j := 0) (by decide +kernel) rfl rfl rfl) ?_
      refine gm_sz (fw_gr (pc := 70) (ix := 14) (ci := 7) (j := 0) (r := 214) (by decide +kernel) (e0k hE (k := 213) (c := 7) (by decide +kernel)) (by decide +kernel) (by decide +kernel) (e0r hE (k := 213) (j := 0) (r := 214) (by decide +kernel))) ?_
      refine gm_c_virt (k := 214) (ci := 8) (mj := 121) (ix := 42) (pc := 73) (as := []) (st := []) (d' := d - 1) (bc' := 0) (bs' := 0) (by decide +kernel) (by decide +kernel) (by decide +kernel) (by decide +kernel) (e0k hE (k := 214) (c := 8) (by decide +kernel)).1 (e0k hE (k := 214) (c := 8) (by decide +kernel)).2 (by decide) (by decide +kernel) (show 0 = gm_na 121 by decide +kernel) fw_c0 (show 1 ≤ gm_ml 121 by decide +kernel) (Nat.le_of_ble_eq_true rfl) (by omega) (Nat.zero_le _) (Nat.zero_le _) ?_
      refine vw_121 hE hF g3 ?_
      show gm_Wp X LX d _ _ 72 76 _ [gm_vi ((v_line f e N b).2.1)] n K _ _ Q
      have ev : v_txt f e (t + 1) N b = (false, (v_line f e N b).2.1, N) := tif_f g5
      rw [ev] at q0
      exact gm_r_int (pc := 76) (by decide +kernel) (Or.inl (by decide +kernel)) (q0 _ (fr_t fr_0 g1 (by decide)) (cst_fr (W := [((214 : Nat), some (3 : Int)), ((214 : Nat), some (4 : Int)), ((214 : Nat), some (5 : Int)), ((214 : Nat), some (6 : Int)), ((214 : Nat), some (7 : Int)), ((16 : Nat), none), ((17 : Nat), some (3 : Int)), ((18 : Nat), none), ((19 : Nat), some (3 : Int)), ((20 : Nat), none), ((21 : Nat), some (3 : Int)), ((22 : Nat), none), ((23 : Nat), some (3 : Int)), ((24 : Nat), none), ((25 : Nat), some (3 : Int)), ((26 : Nat), none)]) hC (fr_t fr_0 g1 (by decide)) (by decide +kernel)) (fun h => by cases h))
end VR
