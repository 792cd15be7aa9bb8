/-! 7a39.v3rr -/
section
/-! THE REFERENCE'S READER OF A VALLEY (laid by wip/core/v3.py). -/
/-- where it stands in the text -/
noncomputable def RW (f : Int → Int) (e pt : Int) (M : gm_M) : Prop := M 231 = f ∧ M 226 10 = e ∧ M 226 9 = pt
section RWS
variable {X : Int → Int} {LX d bc bs n : Nat} {K : gm_K} {R : gm_R} {M M2 : gm_M} {Q : gm_Q} {f : Int → Int} {e b pt p2 b2 lo hi : Int} {W : List (Nat × Option Int)} {c : Nat} {l : List Int}
theorem rw_fr (h : RW f e pt M) (h9 : fr W M M2) (hw : W.all (fun w => !(w.1 == 231) && !(w.1 == 226 && (w.2 == none || w.2 == some 9 || w.2 == some 10))) = true) : RW f e pt M2 := by
  obtain ⟨h1, h2, h3⟩ := h
  refine ⟨(funext fun j => ?_ : M2 231 = M 231).trans h1, (?_ : M2 226 10 = M 226 10).trans h2, (?_ : M2 226 9 = M 226 9).trans h3⟩
  · exact h9 231 j (fun hm => by have := List.all_eq_true.mp hw _ hm; simp at this) (fun hm => by have := List.all_eq_true.mp hw _ hm; simp at this)
  · exact h9 226 10 (fun hm => by have := List.all_eq_true.mp hw _ hm; simp at this) (fun hm => by have := List.all_eq_true.mp hw _ hm; simp at this)
  · exact h9 226 9 (fun hm => by have := List.all_eq_true.mp hw _ hm; simp at this) (fun hm => by have := List.all_eq_true.mp hw _ hm; simp at this)
theorem rv_E (hE : E0 n K R) (hF : VF f e) (h : RW f e pt M) : tR n K R M e := by
  obtain ⟨rfl, h2, -⟩ := h
  exact ⟨⟨e0a hE (k := 226) (q := ((15 : Nat), (0 : Nat))) (by decide +kernel), e0a hE (k := 227) (q := ((0 : Nat), (2093 : Nat))) (by decide +kernel), e0a hE (k := 231) (q := ((1 : Nat), (400 : Nat))) (by decide +kernel)⟩, ⟨e0r hE (k := 226) (j := 1) (r := 227) (by decide +kernel), e0r hE (k := 226) (j := 7) (r := 231) (by decide +kernel)⟩, ⟨h2, hF.1⟩, hF.2⟩
/-- the memory with the place moved -/
noncomputable def rmv (M : gm_M) (p b : Int) : gm_M := rm M p b (M 226 12) (M 226 15) (M 227)
theorem rmv_id (h : RW f e pt M) : rmv M pt (M 226 11) = M := by
  have := rm_id (M := M)
  rw [h.2.2] at this
  exact this
theorem rmv_fr : fr [((226 : Nat), some (9 : Int)), ((226 : Nat), some (11 : Int))] M (rmv M p2 b2) := by
  intro c j h1 h2
  unfold rmv rm
  by_cases hc : c = 226
  · subst hc
    simp at h2
    rw [if_pos rfl, if_neg (by omega), if_neg (by omega)]
    by_cases h12 : j = 12
    · subst h12; rfl
    · rw [if_neg h12]
      by_cases h15 : j = 15
      · subst h15; rfl
      · rw [if_neg h15]
  · rw [if_neg hc]
    by_cases h27 : c = 227
    · subst h27; rfl
    · rw [if_neg h27]
theorem rmv_RW (h : RW f e pt M) : RW f e p2 (rmv M p2 b2) := ⟨h.1, h.2.1, rfl⟩
theorem rv_256 (hd : 2 ≤ d) (hE : E0 n K R) (hF : VF f e) (hR : RW f e pt M) (hp : 0 ≤ pt ∧ pt ≤ e) (hg : tx_g f e pt = b) (hlo : 0 ≤ lo ∧ lo < 2147483648) (hhi : gm_ir hi) (h1 : vn f e lo hi b → ∀ M2, fr [((226 : Nat), some (9 : Int)), ((226 : Nat), some (11 : Int))] M M2 → RW f e (tx_s f e b) M2 → Q (.inl (some (gm_vi (tx_v f e 4 b)))) n K R M2) (h0 : ¬ vn f e lo hi b → ∀ M2, fr [((226 : Nat), some (9 : Int)), ((226 : Nat), some (11 : Int))] M M2 → M2 226 11 = b → Q (.inl (some (gm_vi (-1)))) n K R M2) : gm_Wp X LX d bc bs 256 0 (gm_ent 256 [gm_vr 226, gm_vi lo, gm_vi hi, gm_vi 4]) [] n K R M Q := by
  have g := tr_c256 (X := X) (LX := LX) (bc := bc) (bs := bs) (m := 4) (pt := pt) (b := b) (bg := M 226 11) (dp := M 226 12) (st := M 226 15) (W := M 227) (Q := Q) hd (rv_E hE hF hR) (by decide) hlo hhi hp (by rw [hR.1]; exact hg) (fun k => by rw [hR.1] at k ⊢; exact h1 k _ rmv_fr (rmv_RW hR)) (fun k p => by rw [hR.1] at k; exact h0 k (rmv M p b) rmv_fr rfl)
  rw [show rm M pt (M 226 11) (M 226 12) (M 226 15) (M 227) = M from rmv_id hR] at g
  exact g
theorem rv_248 (hd : 2 ≤ d) (hE : E0 n K R) (hF : VF f e) (hR : RW f e pt M) (hp : 0 ≤ pt ∧ pt ≤ e) (hg : tx_g f e pt = b) (hq : ∀ M2, fr [((226 : Nat), some (9 : Int)), ((226 : Nat), some (11 : Int))] M M2 → RW f e (tx_r (tx_l f) e b) M2 → M2 226 11 = b → Q (.inl none) n K R M2) : gm_Wp X LX d bc bs 248 0 (gm_ent 248 [gm_vr 226]) [] n K R M Q := by
  have g := tr_c248 (X := X) (LX := LX) (bc := bc) (bs := bs) (pt := pt) (b := b) (bg := M 226 11) (dp := M 226 12) (st := M 226 15) (W := M 227) (Q := Q) hd (rv_E hE hF hR) hp (by rw [hR.1]; exact hg) (by rw [hR.1]; exact hq _ rmv_fr (rmv_RW hR) rfl)
  rw [show rm M pt (M 226 11) (M 226 12) (M 226 15) (M 227) = M from rmv_id hR] at g
  exact g
theorem rv_250 (hd : 5 ≤ d) (hE : E0 n K R) (hF : VF f e) (hR : RW f e (tx_r (tx_l f) e b) M) (h11 : M 226 11 = b) (hc : c < 75) (hl : tx_o c = l) (hn : 0 < l.length) (hb : 0 ≤ b ∧ b ≤ e) (h1 : tx_is f e b l → Q (.inl (some (gm_vi 1))) n K R M) (h0 : ¬ tx_is f e b l → Q (.inl (some (gm_vi 0))) n K R M) : gm_Wp X LX d bc bs 250 0 (gm_ent 250 [gm_vr 226, gm_vo c]) [] n K R M Q := by
  have hr := tx_rb (q := tx_l f) (e := e) _ b rfl hb.2
  have e1 : rm M (tx_r (tx_l f) e b) b (M 226 12) (M 226 15) (M 227) = M := by
    have := rmv_id hR
    rw [h11] at this
    exact this
  have is : (tx_r (tx_l f) e b - b = (l.length : Int) ∧ ∀ i : Nat, i < l.length → M 231 (b + i) = l.getD i 0) ↔ tx_is f e b l := by
    have := tr_is (M := M) (e := e) (b := b) (l := l) hb hn
    rw [hR.1] at this ⊢
    exact this
  have g := tr_c250 (X := X) (LX := LX) (bc := bc) (bs := bs) (pt := tx_r (tx_l f) e b) (bg := b) (dp := M 226 12) (st := M 226 15) (W := M 227) (Q := Q) hd (rv_E hE hF hR) hc hl ⟨hb.1, hr.1, hr.2.1⟩ (fun k => by rw [e1]; exact h1 (is.mp k)) (fun k => by rw [e1]; exact h0 (fun hh => k (is.mpr hh)))
  rw [e1] at g
  exact g
theorem rv_269 (hd : 6 ≤ d) (hE : E0 n K R) (hF : VF f e) (hR : RW f e pt M) (hp : 0 ≤ pt ∧ pt ≤ e) (hg : tx_g f e pt = b) (hc : c < 75) (hl : tx_o c = l) (hn : 0 < l.length) (h1 : tx_is f e b l → ∀ M2, fr [((226 : Nat), some (9 : Int)), ((226 : Nat), some (11 : Int))] M M2 → RW f e (tx_s f e b) M2 → Q (.inl (some (gm_vi 1))) n K R M2) (h0 : ¬ tx_is f e b l → ∀ M2, fr [((226 : Nat), some (9 : Int)), ((226 : Nat), some (11 : Int))] M M2 → RW f e b M2 → Q (.inl (some (gm_vi 0))) n K R M2) : gm_Wp X LX d bc bs 269 0 (gm_ent 269 [gm_vr 226, gm_vo c]) [] n K R M Q := by
  have g := tr_c269 (X := X) (LX := LX) (bc := bc) (bs := bs) (pt := pt) (b := b) (bg := M 226 11) (dp := M 226 12) (st := M 226 15) (W := M 227) (Q := Q) hd (rv_E hE hF hR) hc hl hn hp (by rw [hR.1]; exact hg) (fun k => by rw [hR.1] at k ⊢; exact h1 k _ rmv_fr (rmv_RW hR)) (fun k => by rw [hR.1] at k; exact h0 k (rmv M b b) rmv_fr (rmv_RW hR))
  rw [show rm M pt (M 226 11) (M 226 12) (M 226 15) (M 227) = M from rmv_id hR] at g
  exact g
theorem ws_um {k v : Int} {V : Int → Int} (h : ws (M 227) = V) (hk : 0 ≤ k ∧ k < 395 ∧ ¬ k = 8) : ws (gm_uM M 227 k v 227) = nup V k v := by
  rw [nup_s rfl, ws_put hk, h]
theorem ws_uf (h9 : fr W M M2) (hw : W.all (fun w => !(w.1 == 227)) = true) : ws (M2 227) = ws (M 227) := congrArg ws (funext fun j => fr_c h9 hw)
/-- the order of two writes -/
theorem nup_c {V : Int → Int} {i j x y : Int} (h : ¬ i = j) : nup (nup V i x) j y = nup (nup V j y) i x := by
  funext z
  unfold nup
  by_cases h1 : z = j
  · rw [if_pos h1, if_neg (fun hh => h (hh.symm.trans h1)), if_pos h1]
  · rw [if_neg h1]
    by_cases h2 : z = i
    · rw [if_pos h2, if_pos h2]
    · rw [if_neg h2, if_neg h2, if_neg h1]
theorem v_sp_c {i x : Int} : ∀ (t : Nat) (N : Int → Int) (a b : Int), (i < a ∨ a + (t : Int) ≤ i) → v_sp f e t (nup N i x) a b = ((v_sp f e t N a b).1, (v_sp f e t N a b).2.1, nup (v_sp f e t N a b).2.2 i x) := by
  intro t
  induction t with
  | zero => exact fun N a b _ => rfl
  | succ t ih =>
    intro N a b h
    by_cases h1 : vn f e 0 20 b
    · rw [show v_sp f e (t + 1) (nup N i x) a b = v_sp f e t (nup (nup N i x) a (tx_v f e 4 b)) (a + 1) (tx_n f e b) from tif_t h1, show v_sp f e (t + 1) N a b = v_sp f e t (nup N a (tx_v f e 4 b)) (a + 1) (tx_n f e b) from tif_t h1, nup_c (by omega)]
      exact ih _ _ _ (by omega)
    · rw [show v_sp f e (t + 1) (nup N i x) a b = (false, b, nup N i x) from tif_f h1, show v_sp f e (t + 1) N a b = (false, b, N) from tif_f h1]
theorem bw_t {M1 M9 M8 : gm_M} (h1 : BW M1 M9) (h2 : BW M9 M8) : BW M1 M8 := ⟨fun j hj => (h2.1 j hj).trans (h1.1 j hj), h2.2.trans h1.2⟩
end RWS
section RVV
variable {X : Int → Int} {LX d bc bs n : Nat} {K : gm_K} {R : gm_R} {M : gm_M} {Q : gm_Q} {f h N : Int → Int} {e b pt lo hi x y l t : Int}
theorem rv_255 (hd : 3 ≤ d) (hE : E0 n K R) (hF : VF f e) (hR : RW f e pt M) (hp : 0 ≤ pt ∧ pt ≤ e) (hg : tx_g f e pt = b) (hb : 0 ≤ b ∧ b ≤ e) (hlo : 0 ≤ lo ∧ lo < 2147483648) (hhi : gm_ir hi) (h1 : vn f e lo hi b → ∀ M2, fr [((226 : Nat), some (9 : Int)), ((226 : Nat), some (11 : Int))] M M2 → RW f e (tx_s f e b) M2 → Q (.inl (some (gm_vi (tx_v f e 4 b)))) n K R M2) (h0 : ¬ vn f e lo hi b → ∀ M2, fr [((226 : Nat), some (9 : Int)), ((226 : Nat), some (11 : Int))] M M2 → M2 226 11 = b → Q (.inl (some (gm_vi (-1)))) n K R M2) : gm_Wp X LX d bc bs 255 0 (gm_ent 255 [gm_vr 226, gm_vi lo, gm_vi hi]) [] n K R M Q := by
  refine gm_sz (gm_p_load (pc := 0) (i := .aload_n 0) (sr := 2) (j := 0) (by decide +kernel) rfl rfl rfl) ?_
  refine gm_sz (gm_p_load (pc := 1) (i := .iload_n 1) (sr := 0) (j := 1) (by decide +kernel) rfl rfl rfl) ?_
  refine gm_sz (gm_p_load (pc := 2) (i := .iload_n 2) (sr := 0) (j := 2) (by decide +kernel) rfl rfl rfl) ?_
  refine gm_sz (gm_p_const (pc := 3) (i := .iconst 4) (v := gm_vi 4) (by decide +kernel) (by decide +kernel)) ?_
  refine gm_c_virt (k := 226) (ci := 11) (mj := 256) (ix := 138) (pc := 4) (as := [gm_vi lo, gm_vi hi, gm_vi 4]) (st := []) (d' := d - 1) (bc' := 0) (bs' := 0) (by decide +kernel) (by decide +kernel) (by decide +kernel) (by decide +kernel) (e0k hE (k := 226) (c := 11) (by decide +kernel)).1 (e0k hE (k := 226) (c := 11) (by decide +kernel)).2 (by decide) (by decide +kernel) (show 3 = gm_na 256 by decide +kernel) (fw_c3 fw_si fw_si fw_si) (show 4 ≤ gm_ml 256 by decide +kernel) (Nat.le_of_ble_eq_true rfl) (by omega) (Nat.zero_le _) (Nat.zero_le _) ?_
  refine rv_256 (by omega) hE hF hR hp hg hlo hhi (fun h4 M4 hf4 hr4 => ?_) (fun h4 M4 hf4 h11_4 => ?_)
  · show gm_Wp X LX d _ _ 255 7 _ [gm_vi (tx_v f e 4 b)] n K _ _ Q
    have h4 : vn f e lo hi b := h4
    have hv4 : lo ≤ tx_v f e 4 b ∧ tx_v f e 4 b ≤ hi := h4.2
    have sb4 := tx_sb (f := f) (e := e) (b := b) hb.2
    have hb4 := tx_nb (f := f) (e := e) (b := b) hb.2
    have hp4 : 0 ≤ tx_s f e b ∧ tx_s f e b ≤ e := ⟨by have := hb.1; omega, sb4.2.1⟩
    have hb4 : 0 ≤ tx_n f e b ∧ tx_n f e b ≤ e := ⟨by have := hb.1; omega, hb4.2.1⟩
    exact gm_r_int (pc := 7) (by decide +kernel) (Or.inl (by decide +kernel)) (h1 h4 _ hf4 hr4)
  · show gm_Wp X LX d _ _ 255 7 _ [gm_vi (-1)] n K _ _ Q
    have h4 : ¬ vn f e lo hi b := h4
    exact gm_r_int (pc := 7) (by decide +kernel) (Or.inl (by decide +kernel)) (h0 h4 _ hf4 h11_4)
theorem rv_268 (hd : 4 ≤ d) (hE : E0 n K R) (hF : VF f e) (hR : RW f e pt M) (hp : 0 ≤ pt ∧ pt ≤ e) (hg : tx_g f e pt = b) (hb : 0 ≤ b ∧ b ≤ e) (hT : TR N h M) (hN : NR N) (h1 : vn f e 0 (N 0 - 1) b → ∀ M2, fr [((226 : Nat), some (9 : Int)), ((226 : Nat), some (11 : Int))] M M2 → RW f e (tx_s f e b) M2 → Q (.inl (some (gm_vi (tx_v f e 4 b)))) n K R M2) (h0 : ¬ vn f e 0 (N 0 - 1) b → ∀ M2, fr [((226 : Nat), some (9 : Int)), ((226 : Nat), some (11 : Int))] M M2 → M2 226 11 = b → Q (.inl (some (gm_vi (-1)))) n K R M2) : gm_Wp X LX d bc bs 268 0 (gm_ent 268 [gm_vr 226]) [] n K R M Q := by
  obtain ⟨⟨⟨a0, b0⟩, ⟨a1, b1⟩, ⟨a10, b10⟩, ⟨a11, b11⟩, ⟨a12, b12⟩, a9, b9⟩, ⟨⟨a2, b2⟩, ⟨a5, b5⟩, ⟨a3, b3⟩, ⟨a4, b4⟩, ⟨a6, b6⟩, ⟨a14, b14⟩, ⟨a7, b7⟩, a13, b13⟩, rF, rP, rL⟩ := id hN
  refine gm_sz (gm_p_load (pc := 0) (i := .aload_n 0) (sr := 2) (j := 0) (by decide +kernel) rfl rfl rfl) ?_
  refine gm_sz (gm_p_const (pc := 1) (i := .iconst 0) (v := gm_vi 0) (by decide +kernel) (by decide +kernel)) ?_
  refine gm_sz (gm_p_load (pc := 2) (i := .aload_n 0) (sr := 2) (j := 0) (by decide +kernel) rfl rfl rfl) ?_
  refine gm_c_virt (k := 226) (ci := 11) (mj := 261) (ix := 86) (pc := 3) (as := []) (st := [gm_vi 0, gm_vr 226]) (d' := d - 1) (bc' := 0) (bs' := 0) (by decide +kernel) (by decide +kernel) (by decide +kernel) (by decide +kernel) (e0k hE (k := 226) (c := 11) (by decide +kernel)).1 (e0k hE (k := 226) (c := 11) (by decide +kernel)).2 (by decide) (by decide +kernel) (show 0 = gm_na 261 by decide +kernel) fw_c0 (show 1 ≤ gm_ml 261 by decide +kernel) (Nat.le_of_ble_eq_true rfl) (by omega) (Nat.zero_le _) (Nat.zero_le _) ?_
  refine re_lan hE hT hN ?_
  show gm_Wp X LX d _ _ 268 6 _ [gm_vi (N 0), gm_vi 0, gm_vr 226] n K _ _ Q
  refine gm_sz (gm_p_const (pc := 6) (i := .iconst 1) (v := gm_vi 1) (by decide +kernel) (by decide +kernel)) ?_
  refine gm_sz (gm_p_bin (pc := 7) (i := .isub) (f := fun x y => x - y) (by decide +kernel) rfl) ?_
  refine gm_c_virt (k := 226) (ci := 11) (mj := 255) (ix := 142) (pc := 8) (as := [gm_vi 0, gm_vi ((N 0) - 1)]) (st := []) (d' := d - 1) (bc' := 0) (bs' := 0) (by decide +kernel) (by decide +kernel) (by decide +kernel) (by decide +kernel) (e0k hE (k := 226) (c := 11) (by decide +kernel)).1 (e0k hE (k := 226) (c := 11) (by decide +kernel)).2 (by decide) (by decide +kernel) (show 2 = gm_na 255 by decide +kernel) (fw_c2 fw_si fw_si) (show 3 ≤ gm_ml 255 by decide +kernel) (Nat.le_of_ble_eq_true rfl) (by omega) (Nat.zero_le _) (Nat.zero_le _) ?_
  refine rv_255 (by omega) hE hF hR hp hg hb ⟨by decide, by decide⟩ ⟨by omega, by omega⟩ (fun h8 M8 hf8 hr8 => ?_) (fun h8 M8 hf8 h11_8 => ?_)
  · show gm_Wp X LX d _ _ 268 11 _ [gm_vi (tx_v f e 4 b)] n K _ _ Q
    have h8 : vn f e 0 ((N 0) - 1) b := h8
    have hv8 : 0 ≤ tx_v f e 4 b ∧ tx_v f e 4 b ≤ (N 0) - 1 := h8.2
    have sb8 := tx_sb (f := f) (e := e) (b := b) hb.2
    have hb8 := tx_nb (f := f) (e := e) (b := b) hb.2
    have hp8 : 0 ≤ tx_s f e b ∧ tx_s f e b ≤ e := ⟨by have := hb.1; omega, sb8.2.1⟩
    have hb8 : 0 ≤ tx_n f e b ∧ tx_n f e b ≤ e := ⟨by have := hb.1; omega, hb8.2.1⟩
    exact gm_r_int (pc := 11) (by decide +kernel) (Or.inl (by decide +kernel)) (h1 h8 _ hf8 hr8)
  · show gm_Wp X LX d _ _ 268 11 _ [gm_vi (-1)] n K _ _ Q
    have h8 : ¬ vn f e 0 ((N 0) - 1) b := h8
    exact gm_r_int (pc := 11) (by decide +kernel) (Or.inl (by decide +kernel)) (h0 h8 _ hf8 h11_8)
theorem rv_263 (hd : 4 ≤ d) (hE : E0 n K R) (hF : VF f e) (hR : RW f e pt M) (hp : 0 ≤ pt ∧ pt ≤ e) (hg : tx_g f e pt = b) (hb : 0 ≤ b ∧ b ≤ e) (hT : TR N h M) (hN : NR N) (h1 : vn f e 0 (N 1 - 1) b → ∀ M2, fr [((226 : Nat), some (9 : Int)), ((226 : Nat), some (11 : Int))] M M2 → RW f e (tx_s f e b) M2 → Q (.inl (some (gm_vi (tx_v f e 4 b)))) n K R M2) (h0 : ¬ vn f e 0 (N 1 - 1) b → ∀ M2, fr [((226 : Nat), some (9 : Int)), ((226 : Nat), some (11 : Int))] M M2 → M2 226 11 = b → Q (.inl (some (gm_vi (-1)))) n K R M2) : gm_Wp X LX d bc bs 263 0 (gm_ent 263 [gm_vr 226]) [] n K R M Q := by
  obtain ⟨⟨⟨a0, b0⟩, ⟨a1, b1⟩, ⟨a10, b10⟩, ⟨a11, b11⟩, ⟨a12, b12⟩, a9, b9⟩, ⟨⟨a2, b2⟩, ⟨a5, b5⟩, ⟨a3, b3⟩, ⟨a4, b4⟩, ⟨a6, b6⟩, ⟨a14, b14⟩, ⟨a7, b7⟩, a13, b13⟩, rF, rP, rL⟩ := id hN
  refine gm_sz (gm_p_load (pc := 0) (i := .aload_n 0) (sr := 2) (j := 0) (by decide +kernel) rfl rfl rfl) ?_
  refine gm_sz (gm_p_const (pc := 1) (i := .iconst 0) (v := gm_vi 0) (by decide +kernel) (by decide +kernel)) ?_
  refine gm_sz (gm_p_load (pc := 2) (i := .aload_n 0) (sr := 2) (j := 0) (by decide +kernel) rfl rfl rfl) ?_
  refine gm_c_virt (k := 226) (ci := 11) (mj := 259) (ix := 94) (pc := 3) (as := []) (st := [gm_vi 0, gm_vr 226]) (d' := d - 1) (bc' := 0) (bs' := 0) (by decide +kernel) (by decide +kernel) (by decide +kernel) (by decide +kernel) (e0k hE (k := 226) (c := 11) (by decide +kernel)).1 (e0k hE (k := 226) (c := 11) (by decide +kernel)).2 (by decide) (by decide +kernel) (show 0 = gm_na 259 by decide +kernel) fw_c0 (show 1 ≤ gm_ml 259 by decide +kernel) (Nat.le_of_ble_eq_true rfl) (by omega) (Nat.zero_le _) (Nat.zero_le _) ?_
  refine re_lip hE hT hN ?_
  show gm_Wp X LX d _ _ 263 6 _ [gm_vi (N 1), gm_vi 0, gm_vr 226] n K _ _ Q
  refine gm_sz (gm_p_const (pc := 6) (i := .iconst 1) (v := gm_vi 1) (by decide +kernel) (by decide +kernel)) ?_
  refine gm_sz (gm_p_bin (pc := 7) (i := .isub) (f := fun x y => x - y) (by decide +kernel) rfl) ?_
  refine gm_c_virt (k := 226) (ci := 11) (mj := 255) (ix := 142) (pc := 8) (as := [gm_vi 0, gm_vi ((N 1) - 1)]) (st := []) (d' := d - 1) (bc' := 0) (bs' := 0) (by decide +kernel) (by decide +kernel) (by decide +kernel) (by decide +kernel) (e0k hE (k := 226) (c := 11) (by decide +kernel)).1 (e0k hE (k := 226) (c := 11) (by decide +kernel)).2 (by decide) (by decide +kernel) (show 2 = gm_na 255 by decide +kernel) (fw_c2 fw_si fw_si) (show 3 ≤ gm_ml 255 by decide +kernel) (Nat.le_of_ble_eq_true rfl) (by omega) (Nat.zero_le _) (Nat.zero_le _) ?_
  refine rv_255 (by omega) hE hF hR hp hg hb ⟨by decide, by decide⟩ ⟨by omega, by omega⟩ (fun h8 M8 hf8 hr8 => ?_) (fun h8 M8 hf8 h11_8 => ?_)
  · show gm_Wp X LX d _ _ 263 11 _ [gm_vi (tx_v f e 4 b)] n K _ _ Q
    have h8 : vn f e 0 ((N 1) - 1) b := h8
    have hv8 : 0 ≤ tx_v f e 4 b ∧ tx_v f e 4 b ≤ (N 1) - 1 := h8.2
    have sb8 := tx_sb (f := f) (e := e) (b := b) hb.2
    have hb8 := tx_nb (f := f) (e := e) (b := b) hb.2
    have hp8 : 0 ≤ tx_s f e b ∧ tx_s f e b ≤ e := ⟨by have := hb.1; omega, sb8.2.1⟩
    have hb8 : 0 ≤ tx_n f e b ∧ tx_n f e b ≤ e := ⟨by have := hb.1; omega, hb8.2.1⟩
    exact gm_r_int (pc := 11) (by decide +kernel) (Or.inl (by decide +kernel)) (h1 h8 _ hf8 hr8)
  · show gm_Wp X LX d _ _ 263 11 _ [gm_vi (-1)] n K _ _ Q
    have h8 : ¬ vn f e 0 ((N 1) - 1) b := h8
    exact gm_r_int (pc := 11) (by decide +kernel) (Or.inl (by decide +kernel)) (h0 h8 _ hf8 h11_8)
theorem rv_264 {c : Nat} {l : List Int} (hd : 6 ≤ d) (hE : E0 n K R) (hF : VF f e) (hR : RW f e pt M) (hp : 0 ≤ pt ∧ pt ≤ e) (hg : tx_g f e pt = b) (hb : 0 ≤ b ∧ b ≤ e) (hc : c < 75) (hl : tx_o c = l) (hn : 0 < l.length) (hlo : 0 ≤ lo ∧ lo < 2147483648) (hhi : gm_ir hi) (h1 : tx_is f e b l → vn f e lo hi (tx_n f e b) → ∀ M2, fr [((226 : Nat), some (9 : Int)), ((226 : Nat), some (11 : Int))] M M2 → RW f e (tx_s f e (tx_n f e b)) M2 → Q (.inl (some (gm_vi (tx_v f e 4 (tx_n f e b))))) n K R M2) (h2 : tx_is f e b l → ¬ vn f e lo hi (tx_n f e b) → ∀ M2, fr [((226 : Nat), some (9 : Int)), ((226 : Nat), some (11 : Int))] M M2 → M2 226 11 = tx_n f e b → Q (.inl (some (gm_vi (-1)))) n K R M2) (h0 : ¬ tx_is f e b l → ∀ M2, fr [((226 : Nat), some (9 : Int)), ((226 : Nat), some (11 : Int))] M M2 → M2 226 11 = b → Q (.inl (some (gm_vi (-1)))) n K R M2) : gm_Wp X LX d bc bs 264 0 (gm_ent 264 [gm_vr 226, gm_vo c, gm_vi lo, gm_vi hi]) [] n K R M Q := by
  refine gm_sz (gm_p_load (pc := 0) (i := .aload_n 0) (sr := 2) (j := 0) (by decide +kernel) rfl rfl rfl) ?_
  refine gm_c_virt (k := 226) (ci := 11) (mj := 248) (ix := 131) (pc := 1) (as := []) (st := []) (d' := d - 1) (bc' := 0) (bs' := 0) (by decide +kernel) (by decide +kernel) (by decide +kernel) (by decide +kernel) (e0k hE (k := 226) (c := 11) (by decide +kernel)).1 (e0k hE (k := 226) (c := 11) (by decide +kernel)).2 (by decide) (by decide +kernel) (show 0 = gm_na 248 by decide +kernel) fw_c0 (show 1 ≤ gm_ml 248 by decide +kernel) (Nat.le_of_ble_eq_true rfl) (by omega) (Nat.zero_le _) (Nat.zero_le _) ?_
  refine rv_248 (by omega) hE hF hR hp hg (fun M1 hf1 hr1 h11_1 => ?_)
  show gm_Wp X LX d _ _ 264 4 _ [] n K _ _ Q
  refine gm_sz (gm_p_load (pc := 4) (i := .aload_n 0) (sr := 2) (j := 0) (by decide +kernel) rfl rfl rfl) ?_
  refine gm_sz (gm_p_load (pc := 5) (i := .aload_n 1) (sr := 2) (j := 1) (by decide +kernel) rfl rfl rfl) ?_
  refine gm_c_virt (k := 226) (ci := 11) (mj := 250) (ix := 134) (pc := 6) (as := [gm_vo c]) (st := []) (d' := d - 1) (bc' := 0) (bs' := 0) (by decide +kernel) (by decide +kernel) (by decide +kernel) (by decide +kernel) (e0k hE (k := 226) (c := 11) (by decide +kernel)).1 (e0k hE (k := 226) (c := 11) (by decide +kernel)).2 (by decide) (by decide +kernel) (show 1 = gm_na 250 by decide +kernel) (fw_c1 fw_so) (show 2 ≤ gm_ml 250 by decide +kernel) (Nat.le_of_ble_eq_true rfl) (by omega) (Nat.zero_le _) (Nat.zero_le _) ?_
  refine rv_250 (by omega) hE hF hr1 h11_1 hc hl hn hb (fun h6 => ?_) (fun h6 => ?_)
  · show gm_Wp X LX d _ _ 264 9 _ [gm_vi 1] n K _ _ Q
    have h6 : tx_is f e b l := h6
    have sb6 := tx_sb (f := f) (e := e) (b := b) hb.2
    have hb6 := tx_nb (f := f) (e := e) (b := b) hb.2
    have hp6 : 0 ≤ tx_s f e b ∧ tx_s f e b ≤ e := ⟨by have := hb.1; omega, sb6.2.1⟩
    have hb6 : 0 ≤ tx_n f e b ∧ tx_n f e b ≤ e := ⟨by have := hb.1; omega, hb6.2.1⟩
    have hr6 := hr1
    rw [← tx_s1 h6] at hr6
    refine fw_iffd (cc := .eq) (pc := 9) (off := 12) (by decide +kernel) (by decide) ⟨by decide, by decide⟩ (by decide) ?_
    refine gm_sz (gm_p_load (pc := 12) (i := .aload_n 0) (sr := 2) (j := 0) (by decide +kernel) rfl rfl rfl) ?_
    refine gm_sz (gm_p_load (pc := 13) (i := .iload_n 2) (sr := 0) (j := 2) (by decide +kernel) rfl rfl rfl) ?_
    refine gm_sz (gm_p_load (pc := 14) (i := .iload_n 3) (sr := 0) (j := 3) (by decide +kernel) rfl rfl rfl) ?_
    refine gm_c_virt (k := 226) (ci := 11) (mj := 255) (ix := 142) (pc := 15) (as := [gm_vi lo, gm_vi hi]) (st := []) (d' := d - 1) (bc' := 0) (bs' := 0) (by decide +kernel) (by decide +kernel) (by decide +kernel) (by decide +kernel) (e0k hE (k := 226) (c := 11) (by decide +kernel)).1 (e0k hE (k := 226) (c := 11) (by decide +kernel)).2 (by decide) (by decide +kernel) (show 2 = gm_na 255 by decide +kernel) (fw_c2 fw_si fw_si) (show 3 ≤ gm_ml 255 by decide +kernel) (Nat.le_of_ble_eq_true rfl) (by omega) (Nat.zero_le _) (Nat.zero_le _) ?_
    refine rv_255 (by omega) hE hF hr6 hp6 rfl hb6 hlo hhi (fun h15 M15 hf15 hr15 => ?_) (fun h15 M15 hf15 h11_15 => ?_)
    · show gm_Wp X LX d _ _ 264 18 _ [gm_vi (tx_v f e 4 (tx_n f e b))] n K _ _ Q
      have h15 : vn f e lo hi (tx_n f e b) := h15
      have hv15 : lo ≤ tx_v f e 4 (tx_n f e b) ∧ tx_v f e 4 (tx_n f e b) ≤ hi := h15.2
      have sb15 := tx_sb (f := f) (e := e) (b := (tx_n f e b)) hb6.2
      have hb15 := tx_nb (f := f) (e := e) (b := (tx_n f e b)) hb6.2
      have hp15 : 0 ≤ tx_s f e (tx_n f e b) ∧ tx_s f e (tx_n f e b) ≤ e := ⟨by have := hb6.1; omega, sb15.2.1⟩
      have hb15 : 0 ≤ tx_n f e (tx_n f e b) ∧ tx_n f e (tx_n f e b) ≤ e := ⟨by have := hb6.1; omega, hb15.2.1⟩
      refine gm_sz (gm_p_goto (pc := 18) (off := 4) (by decide +kernel) (by decide)) ?_
      exact gm_r_int (pc := 22) (by decide +kernel) (Or.inl (by decide +kernel)) (h1 h6 h15 _ (fr_t (fr_t fr_0 hf1 (by decide)) hf15 (by decide)) hr15)
    · show gm_Wp X LX d _ _ 264 18 _ [gm_vi (-1)] n K _ _ Q
      have h15 : ¬ vn f e lo hi (tx_n f e b) := h15
      refine gm_sz (gm_p_goto (pc := 18) (off := 4) (by decide +kernel) (by decide)) ?_
      exact gm_r_int (pc := 22) (by decide +kernel) (Or.inl (by decide +kernel)) (h2 h6 h15 _ (fr_t (fr_t fr_0 hf1 (by decide)) hf15 (by decide)) h11_15)
  · show gm_Wp X LX d _ _ 264 9 _ [gm_vi 0] n K _ _ Q
    have h6 : ¬ tx_is f e b l := h6
    refine fw_iftd (cc := .eq) (pc := 9) (off := 12) (by decide +kernel) (by decide) ⟨by decide, by decide⟩ (by decide) ?_
    refine gm_sz (gm_p_const (pc := 21) (i := .iconst (-1)) (v := gm_vi (-1)) (by decide +kernel) (by decide +kernel)) ?_
    exact gm_r_int (pc := 22) (by decide +kernel) (Or.inl (by decide +kernel)) (h0 h6 _ (fr_t fr_0 hf1 (by decide)) h11_1)
theorem rv_252 (hd : 1 ≤ d) (hE : E0 n K R) (hT : TR N h M) (hN : NR N) (q1 : v_emp N → Q (.inl (some (gm_vi 1))) n K R M) (q0 : ¬ v_emp N → Q (.inl (some (gm_vi 0))) n K R M) : gm_Wp X LX d bc bs 252 0 (gm_ent 252 [gm_vr 226]) [] n K R M Q := by
  obtain ⟨⟨⟨a0, b0⟩, ⟨a1, b1⟩, ⟨a10, b10⟩, ⟨a11, b11⟩, ⟨a12, b12⟩, a9, b9⟩, ⟨⟨a2, b2⟩, ⟨a5, b5⟩, ⟨a3, b3⟩, ⟨a4, b4⟩, ⟨a6, b6⟩, ⟨a14, b14⟩, ⟨a7, b7⟩, a13, b13⟩, rF, rP, rL⟩ := id hN
  refine gm_sz (gm_p_load (pc := 0) (i := .aload_n 0) (sr := 2) (j := 0) (by decide +kernel) rfl rfl rfl) ?_
  refine gm_sz (fw_gr (pc := 1) (ix := 13) (ci := 11) (j := 1) (r := 227) (by decide +kernel) (e0k hE (k := 226) (c := 11) (by decide +kernel)) (by decide +kernel) (by decide +kernel) (e0r hE (k := 226) (j := 1) (r := 227) (by decide +kernel))) ?_
  refine gm_sz (gm_p_const (pc := 4) (i := .iconst 2) (v := gm_vi 2) (by decide +kernel) (by decide +kernel)) ?_
  refine gm_sz (fw_ia (pc := 5) (k := 227) (len := 2093) (e0 := 2) (x := N 2) (by decide +kernel) (e0a hE (k := 227) (q := ((0 : Nat), (2093 : Nat))) (by decide +kernel)).1 (e0a hE (k := 227) (q := ((0 : Nat), (2093 : Nat))) (by decide +kernel)).2 (by decide) ⟨by omega, by omega⟩ (tr_w hT (by decide) (by decide) (by decide))) ?_
  refine gm_sz (gm_p_load (pc := 6) (i := .aload_n 0) (sr := 2) (j := 0) (by decide +kernel) rfl rfl rfl) ?_
  refine gm_c_virt (k := 226) (ci := 11) (mj := 253) (ix := 97) (pc := 7) (as := []) (st := [gm_vi (N 2)]) (d' := d - 1) (bc' := 0) (bs' := 0) (by decide +kernel) (by decide +kernel) (by decide +kernel) (by decide +kernel) (e0k hE (k := 226) (c := 11) (by decide +kernel)).1 (e0k hE (k := 226) (c := 11) (by decide +kernel)).2 (by decide) (by decide +kernel) (show 0 = gm_na 253 by decide +kernel) fw_c0 (show 1 ≤ gm_ml 253 by decide +kernel) (Nat.le_of_ble_eq_true rfl) (by omega) (Nat.zero_le _) (Nat.zero_le _) ?_
  refine re_peo hE hT hN ?_
  show gm_Wp X LX d _ _ 252 10 _ [gm_vi (N 3), gm_vi (N 2)] n K _ _ Q
  refine gm_sz (gm_p_bin (pc := 10) (i := .iadd) (f := fun x y => x + y) (by decide +kernel) rfl) ?_
  refine gm_sz (gm_p_load (pc := 11) (i := .aload_n 0) (sr := 2) (j := 0) (by decide +kernel) rfl rfl rfl) ?_
  refine gm_c_virt (k := 226) (ci := 11) (mj := 254) (ix := 100) (pc := 12) (as := []) (st := [gm_vi ((N 2) + (N 3))]) (d' := d - 1) (bc' := 0) (bs' := 0) (by decide +kernel) (by decide +kernel) (by decide +kernel) (by decide +kernel) (e0k hE (k := 226) (c := 11) (by decide +kernel)).1 (e0k hE (k := 226) (c := 11) (by decide +kernel)).2 (by decide) (by decide +kernel) (show 0 = gm_na 254 by decide +kernel) fw_c0 (show 1 ≤ gm_ml 254 by decide +kernel) (Nat.le_of_ble_eq_true rfl) (by omega) (Nat.zero_le _) (Nat.zero_le _) ?_
  refine re_let hE hT hN ?_
  show gm_Wp X LX d _ _ 252 15 _ [gm_vi (N 4), gm_vi ((N 2) + (N 3))] n K _ _ Q
  refine gm_sz (gm_p_bin (pc := 15) (i := .iadd) (f := fun x y => x + y) (by decide +kernel) rfl) ?_
  refine gm_sz (gm_p_load (pc := 16) (i := .aload_n 0) (sr := 2) (j := 0) (by decide +kernel) rfl rfl rfl) ?_
  refine gm_sz (fw_gr (pc := 17) (ix := 13) (ci := 11) (j := 1) (r := 227) (by decide +kernel) (e0k hE (k := 226) (c := 11) (by decide +kernel)) (by decide +kernel) (by decide +kernel) (e0r hE (k := 226) (j := 1) (r := 227) (by decide +kernel))) ?_
  refine gm_sz (gm_p_const (pc := 20) (i := .iconst 5) (v := gm_vi 5) (by decide +kernel) (by decide +kernel)) ?_
  refine gm_sz (fw_ia (pc := 21) (k := 227) (len := 2093) (e0 := 5) (x := N 5) (by decide +kernel) (e0a hE (k := 227) (q := ((0 : Nat), (2093 : Nat))) (by decide +kernel)).1 (e0a hE (k := 227) (q := ((0 : Nat), (2093 : Nat))) (by decide +kernel)).2 (by decide) ⟨by omega, by omega⟩ (tr_w hT (by decide) (by decide) (by decide))) ?_
  refine gm_sz (gm_p_bin (pc := 22) (i := .iadd) (f := fun x y => x + y) (by decide +kernel) rfl) ?_
  refine gm_sz (gm_p_load (pc := 23) (i := .aload_n 0) (sr := 2) (j := 0) (by decide +kernel) rfl rfl rfl) ?_
  refine gm_sz (fw_gr (pc := 24) (ix := 13) (ci := 11) (j := 1) (r := 227) (by decide +kernel) (e0k hE (k := 226) (c := 11) (by decide +kernel)) (by decide +kernel) (by decide +kernel) (e0r hE (k := 226) (j := 1) (r := 227) (by decide +kernel))) ?_
  refine gm_sz (gm_p_const (pc := 27) (i := .bipush 6) (v := gm_vi 6) (by decide +kernel) (by decide +kernel)) ?_
  refine gm_sz (fw_ia (pc := 29) (k := 227) (len := 2093) (e0 := 6) (x := N 6) (by decide +kernel) (e0a hE (k := 227) (q := ((0 : Nat), (2093 : Nat))) (by decide +kernel)).1 (e0a hE (k := 227) (q := ((0 : Nat), (2093 : Nat))) (by decide +kernel)).2 (by decide) ⟨by omega, by omega⟩ (tr_w hT (by decide) (by decide) (by decide))) ?_
  refine gm_sz (gm_p_bin (pc := 30) (i := .iadd) (f := fun x y => x + y) (by decide +kernel) rfl) ?_
  refine fw_if (cc := .ne) (pc := 31) (off := 7) (by decide +kernel) (by decide) ⟨by omega, by omega⟩ (fun h31 => ?_) (fun h31 => ?_)
  · have h31 : ¬ (((((N 2) + (N 3)) + (N 4)) + (N 5)) + (N 6)) = 0 := h31
    refine gm_sz (gm_p_const (pc := 38) (i := .iconst 0) (v := gm_vi 0) (by decide +kernel) (by decide +kernel)) ?_
    exact gm_r_int (pc := 39) (by decide +kernel) (Or.inr ⟨(by decide +kernel), Or.inl rfl⟩) (q0 (show ¬ N 2 + N 5 + N 3 + N 4 + N 6 = 0 by omega))
  · have h31 : (((((N 2) + (N 3)) + (N 4)) + (N 5)) + (N 6)) = 0 := Classical.not_not.mp h31
    refine gm_sz (gm_p_const (pc := 34) (i := .iconst 1) (v := gm_vi 1) (by decide +kernel) (by decide +kernel)) ?_
    refine gm_sz (gm_p_goto (pc := 35) (off := 4) (by decide +kernel) (by decide)) ?_
    exact gm_r_int (pc := 39) (by decide +kernel) (Or.inr ⟨(by decide +kernel), Or.inr rfl⟩) (q1 (show N 2 + N 5 + N 3 + N 4 + N 6 = 0 by omega))
theorem rv_251 (hd : 5 ≤ d) (hE : E0 n K R) (hF : VF f e) (hR : RW f e (tx_s f e b) M) (hbg : M 226 11 = b) (hb : 0 ≤ b ∧ b ≤ e) (hT : TR N h M) (hN : NR N) (q1 : ∀ (p2 : Int) M2, fr [((226 : Nat), some (9 : Int)), ((226 : Nat), some (11 : Int)), ((227 : Nat), none)] M M2 → RW f e p2 M2 → 0 ≤ p2 ∧ p2 ≤ e → tx_g f e p2 = (v_lanes f e N b).2.1 → TR (v_lanes f e N b).2.2 h M2 → BW M M2 → (v_lanes f e N b).1 = true → Q (.inl (some (gm_vi 1))) n K R M2) (q0 : ∀ M2, fr [((226 : Nat), some (9 : Int)), ((226 : Nat), some (11 : Int)), ((227 : Nat), none)] M M2 → M2 226 11 = (v_lanes f e N b).2.1 → ¬ (v_lanes f e N b).1 = true → Q (.inl (some (gm_vi 0))) n K R M2) : gm_Wp X LX d bc bs 251 0 (gm_ent 251 [gm_vr 226]) [] n K R M Q := by
  obtain ⟨⟨⟨a0, b0⟩, ⟨a1, b1⟩, ⟨a10, b10⟩, ⟨a11, b11⟩, ⟨a12, b12⟩, a9, b9⟩, ⟨⟨a2, b2⟩, ⟨a5, b5⟩, ⟨a3, b3⟩, ⟨a4, b4⟩, ⟨a6, b6⟩, ⟨a14, b14⟩, ⟨a7, b7⟩, a13, b13⟩, rF, rP, rL⟩ := id hN
  have sb9 := tx_sb (f := f) (e := e) (b := b) hb.2
  have nb9 := tx_nb (f := f) (e := e) (b := b) hb.2
  have hp9 : 0 ≤ tx_s f e b ∧ tx_s f e b ≤ e := ⟨by have := hb.1; omega, sb9.2.1⟩
  have hb9 : 0 ≤ tx_n f e b ∧ tx_n f e b ≤ e := ⟨by have := hb.1; omega, nb9.2.1⟩
  refine gm_sz (gm_p_load (pc := 0) (i := .aload_n 0) (sr := 2) (j := 0) (by decide +kernel) rfl rfl rfl) ?_
  refine gm_c_virt (k := 226) (ci := 11) (mj := 252) (ix := 145) (pc := 1) (as := []) (st := []) (d' := d - 1) (bc' := 0) (bs' := 0) (by decide +kernel) (by decide +kernel) (by decide +kernel) (by decide +kernel) (e0k hE (k := 226) (c := 11) (by decide +kernel)).1 (e0k hE (k := 226) (c := 11) (by decide +kernel)).2 (by decide) (by decide +kernel) (show 0 = gm_na 252 by decide +kernel) fw_c0 (show 1 ≤ gm_ml 252 by decide +kernel) (Nat.le_of_ble_eq_true rfl) (by omega) (Nat.zero_le _) (Nat.zero_le _) ?_
  refine rv_252 (by omega) hE hT hN (fun h1 => ?_) (fun h1 => ?_)
  · show gm_Wp X LX d _ _ 251 4 _ [gm_vi 1] n K _ _ Q
    refine fw_iftd (cc := .ne) (pc := 4) (off := 5) (by decide +kernel) (by decide) ⟨by decide, by decide⟩ (by decide) ?_
    refine gm_sz (gm_p_load (pc := 9) (i := .aload_n 0) (sr := 2) (j := 0) (by decide +kernel) rfl rfl rfl) ?_
    refine gm_sz (gm_p_const (pc := 10) (i := .iconst 1) (v := gm_vi 1) (by decide +kernel) (by decide +kernel)) ?_
    refine gm_sz (gm_p_const (pc := 11) (i := .bipush 6) (v := gm_vi 6) (by decide +kernel) (by decide +kernel)) ?_
    refine gm_c_virt (k := 226) (ci := 11) (mj := 255) (ix := 142) (pc := 13) (as := [gm_vi 1, gm_vi 6]) (st := []) (d' := d - 1) (bc' := 0) (bs' := 0) (by decide +kernel) (by decide +kernel) (by decide +kernel) (by decide +kernel) (e0k hE (k := 226) (c := 11) (by decide +kernel)).1 (e0k hE (k := 226) (c := 11) (by decide +kernel)).2 (by decide) (by decide +kernel) (show 2 = gm_na 255 by decide +kernel) (fw_c2 fw_si fw_si) (show 3 ≤ gm_ml 255 by decide +kernel) (Nat.le_of_ble_eq_true rfl) (by omega) (Nat.zero_le _) (Nat.zero_le _) ?_
    refine rv_255 (by omega) hE hF hR hp9 rfl hb9 ⟨by decide, by decide⟩ ⟨by decide, by decide⟩ (fun h13 M13 hf13 hr13 => ?_) (fun h13 M13 hf13 h11_13 => ?_)
    · show gm_Wp X LX d _ _ 251 16 _ [gm_vi (tx_v f e 4 (tx_n f e b))] n K _ _ Q
      have h13 : vn f e 1 6 (tx_n f e b) := h13
      have hv13 : 1 ≤ tx_v f e 4 (tx_n f e b) ∧ tx_v f e 4 (tx_n f e b) ≤ 6 := h13.2
      have sb13 := tx_sb (f := f) (e := e) (b := (tx_n f e b)) hb9.2
      have hb13 := tx_nb (f := f) (e := e) (b := (tx_n f e b)) hb9.2
      have hp13 : 0 ≤ tx_s f e (tx_n f e b) ∧ tx_s f e (tx_n f e b) ≤ e := ⟨by have := hb9.1; omega, sb13.2.1⟩
      have hb13 : 0 ≤ tx_n f e (tx_n f e b) ∧ tx_n f e (tx_n f e b) ≤ e := ⟨by have := hb9.1; omega, hb13.2.1⟩
      refine gm_sz (gm_p_stor (pc := 16) (i := .istore_n 1) (sr := 0) (j := 1) (by decide +kernel) rfl (show 2 ≤ _ from Nat.le_of_ble_eq_true rfl) rfl) ?_
      refine gm_sz (gm_p_load (pc := 17) (i := .iload_n 1) (sr := 0) (j := 1) (by decide +kernel) rfl rfl rfl) ?_
      refine fw_ift (cc := .ge) (pc := 18) (off := 5) (by decide +kernel) (by decide) ⟨by omega, by omega⟩ (show 0 ≤ (tx_v f e 4 (tx_n f e b)) by omega) ?_
      refine gm_sz (gm_p_load (pc := 23) (i := .aload_n 0) (sr := 2) (j := 0) (by decide +kernel) rfl rfl rfl) ?_
      refine gm_sz (fw_gr (pc := 24) (ix := 13) (ci := 11) (j := 1) (r := 227) (by decide +kernel) (e0k hE (k := 226) (c := 11) (by decide +kernel)) (by decide +kernel) (by decide +kernel) (e0r hE (k := 226) (j := 1) (r := 227) (by decide +kernel))) ?_
      refine gm_sz (gm_p_const (pc := 27) (i := .iconst 0) (v := gm_vi 0) (by decide +kernel) (by decide +kernel)) ?_
      refine gm_sz (gm_p_load (pc := 28) (i := .iload_n 1) (sr := 0) (j := 1) (by decide +kernel) rfl rfl rfl) ?_
      refine gm_sz (fw_is (pc := 29) (k := 227) (len := 2093) (e0 := 0) (x := (tx_v f e 4 (tx_n f e b))) (M' := gm_uM M13 227 0 (tx_v f e 4 (tx_n f e b))) (by decide +kernel) (e0a hE (k := 227) (q := ((0 : Nat), (2093 : Nat))) (by decide +kernel)).1 (e0a hE (k := 227) (q := ((0 : Nat), (2093 : Nat))) (by decide +kernel)).2 (by decide) ⟨by omega, by omega⟩ rfl) ?_
      refine gm_sz (gm_p_load (pc := 30) (i := .aload_n 0) (sr := 2) (j := 0) (by decide +kernel) rfl rfl rfl) ?_
      refine gm_sz (fw_gr (pc := 31) (ix := 13) (ci := 11) (j := 1) (r := 227) (by decide +kernel) (e0k hE (k := 226) (c := 11) (by decide +kernel)) (by decide +kernel) (by decide +kernel) (e0r hE (k := 226) (j := 1) (r := 227) (by decide +kernel))) ?_
      refine gm_sz (gm_p_const (pc := 34) (i := .bipush 12) (v := gm_vi 12) (by decide +kernel) (by decide +kernel)) ?_
      refine gm_sz (gm_p_load (pc := 36) (i := .iload_n 1) (sr := 0) (j := 1) (by decide +kernel) rfl rfl rfl) ?_
      refine gm_sz (fw_is (pc := 37) (k := 227) (len := 2093) (e0 := 12) (x := (tx_v f e 4 (tx_n f e b))) (M' := gm_uM (gm_uM M13 227 0 (tx_v f e 4 (tx_n f e b))) 227 12 (tx_v f e 4 (tx_n f e b))) (by decide +kernel) (e0a hE (k := 227) (q := ((0 : Nat), (2093 : Nat))) (by decide +kernel)).1 (e0a hE (k := 227) (q := ((0 : Nat), (2093 : Nat))) (by decide +kernel)).2 (by decide) ⟨by omega, by omega⟩ rfl) ?_
      refine gm_sz (gm_p_const (pc := 38) (i := .iconst 1) (v := gm_vi 1) (by decide +kernel) (by decide +kernel)) ?_
      have ev : v_lanes f e N b = (true, (tx_n f e (tx_n f e b)), (nup (nup N 0 (tx_v f e 4 (tx_n f e b))) 12 (tx_v f e 4 (tx_n f e b)))) := by
        unfold v_lanes
        rw [tif_t h1, tif_t h13]
        first | done | rfl
      rw [ev] at q1
      exact gm_r_int (pc := 39) (by decide +kernel) (Or.inr ⟨(by decide +kernel), Or.inr rfl⟩) (q1 (tx_s f e (tx_n f e b)) _ (fr_p (fr_p (fr_t fr_0 hf13 (by decide)) (Or.inl (by decide))) (Or.inl (by decide))) (rw_fr (W := [((227 : Nat), some (0 : Int)), ((227 : Nat), some (12 : Int))]) hr13 (fr_p (fr_p fr_0 (Or.inr (by decide))) (Or.inr (by decide))) (by decide)) hp13 rfl (tr_ws (W := [((226 : Nat), some (9 : Int)), ((226 : Nat), some (11 : Int)), ((227 : Nat), none)]) hT ((ws_um ((ws_um (((ws_uf hf13 (by decide)).trans (hT.1))) ⟨by omega, by omega, by omega⟩)) ⟨by omega, by omega, by omega⟩)) (fr_p (fr_p (fr_t fr_0 hf13 (by decide)) (Or.inl (by decide))) (Or.inl (by decide))) (by decide)) ⟨fun j hj => ((uM_ne (by omega)).trans ((uM_ne (by omega)).trans (fr_c hf13 (by decide)))), ((uM_ne (by omega)).trans ((uM_ne (by omega)).trans (fr_c hf13 (by decide))))⟩ rfl)
    · show gm_Wp X LX d _ _ 251 16 _ [gm_vi (-1)] n K _ _ Q
      have h13 : ¬ vn f e 1 6 (tx_n f e b) := h13
      refine gm_sz (gm_p_stor (pc := 16) (i := .istore_n 1) (sr := 0) (j := 1) (by decide +kernel) rfl (show 2 ≤ _ from Nat.le_of_ble_eq_true rfl) rfl) ?_
      refine gm_sz (gm_p_load (pc := 17) (i := .iload_n 1) (sr := 0) (j := 1) (by decide +kernel) rfl rfl rfl) ?_
      refine fw_iffd (cc := .ge) (pc := 18) (off := 5) (by decide +kernel) (by decide) ⟨by decide, by decide⟩ (by decide) ?_
      refine gm_sz (gm_p_const (pc := 21) (i := .iconst 0) (v := gm_vi 0) (by decide +kernel) (by decide +kernel)) ?_
      have ev : v_lanes f e N b = (false, (tx_n f e b), N) := by
        unfold v_lanes
        rw [tif_t h1, tif_f h13]
        first | done | rfl
      rw [ev] at q0
      exact gm_r_int (pc := 22) (by decide +kernel) (Or.inr ⟨(by decide +kernel), Or.inl rfl⟩) (q0 _ (fr_t fr_0 hf13 (by decide)) h11_13 (fun h => by cases h))
  · show gm_Wp X LX d _ _ 251 4 _ [gm_vi 0] n K _ _ Q
    refine fw_iffd (cc := .ne) (pc := 4) (off := 5) (by decide +kernel) (by decide) ⟨by decide, by decide⟩ (by decide) ?_
    refine gm_sz (gm_p_const (pc := 7) (i := .iconst 0) (v := gm_vi 0) (by decide +kernel) (by decide +kernel)) ?_
    have ev : v_lanes f e N b = (false, b, N) := by
      unfold v_lanes
      rw [tif_f h1]
      first | done | rfl
    rw [ev] at q0
    exact gm_r_int (pc := 8) (by decide +kernel) (Or.inr ⟨(by decide +kernel), Or.inl rfl⟩) (q0 _ fr_0 hbg (fun h => by cases h))
theorem rv_257 (hd : 5 ≤ d) (hE : E0 n K R) (hF : VF f e) (hR : RW f e (tx_s f e b) M) (hbg : M 226 11 = b) (hb : 0 ≤ b ∧ b ≤ e) (hT : TR N h M) (hN : NR N) (q1 : ∀ (p2 : Int) M2, fr [((226 : Nat), some (9 : Int)), ((226 : Nat), some (11 : Int)), ((227 : Nat), none)] M M2 → RW f e p2 M2 → 0 ≤ p2 ∧ p2 ≤ e → tx_g f e p2 = (v_last f e N b).2.1 → TR (v_last f e N b).2.2 h M2 → BW M M2 → (v_last f e N b).1 = true → Q (.inl (some (gm_vi 1))) n K R M2) (q0 : ∀ M2, fr [((226 : Nat), some (9 : Int)), ((226 : Nat), some (11 : Int)), ((227 : Nat), none)] M M2 → M2 226 11 = (v_last f e N b).2.1 → ¬ (v_last f e N b).1 = true → Q (.inl (some (gm_vi 0))) n K R M2) : gm_Wp X LX d bc bs 257 0 (gm_ent 257 [gm_vr 226]) [] n K R M Q := by
  obtain ⟨⟨⟨a0, b0⟩, ⟨a1, b1⟩, ⟨a10, b10⟩, ⟨a11, b11⟩, ⟨a12, b12⟩, a9, b9⟩, ⟨⟨a2, b2⟩, ⟨a5, b5⟩, ⟨a3, b3⟩, ⟨a4, b4⟩, ⟨a6, b6⟩, ⟨a14, b14⟩, ⟨a7, b7⟩, a13, b13⟩, rF, rP, rL⟩ := id hN
  have sb9 := tx_sb (f := f) (e := e) (b := b) hb.2
  have nb9 := tx_nb (f := f) (e := e) (b := b) hb.2
  have hp9 : 0 ≤ tx_s f e b ∧ tx_s f e b ≤ e := ⟨by have := hb.1; omega, sb9.2.1⟩
  have hb9 : 0 ≤ tx_n f e b ∧ tx_n f e b ≤ e := ⟨by have := hb.1; omega, nb9.2.1⟩
  refine gm_sz (gm_p_load (pc := 0) (i := .aload_n 0) (sr := 2) (j := 0) (by decide +kernel) rfl rfl rfl) ?_
  refine gm_c_virt (k := 226) (ci := 11) (mj := 252) (ix := 145) (pc := 1) (as := []) (st := []) (d' := d - 1) (bc' := 0) (bs' := 0) (by decide +kernel) (by decide +kernel) (by decide +kernel) (by decide +kernel) (e0k hE (k := 226) (c := 11) (by decide +kernel)).1 (e0k hE (k := 226) (c := 11) (by decide +kernel)).2 (by decide) (by decide +kernel) (show 0 = gm_na 252 by decide +kernel) fw_c0 (show 1 ≤ gm_ml 252 by decide +kernel) (Nat.le_of_ble_eq_true rfl) (by omega) (Nat.zero_le _) (Nat.zero_le _) ?_
  refine rv_252 (by omega) hE hT hN (fun h1 => ?_) (fun h1 => ?_)
  · show gm_Wp X LX d _ _ 257 4 _ [gm_vi 1] n K _ _ Q
    refine fw_iftd (cc := .ne) (pc := 4) (off := 5) (by decide +kernel) (by decide) ⟨by decide, by decide⟩ (by decide) ?_
    refine gm_sz (gm_p_load (pc := 9) (i := .aload_n 0) (sr := 2) (j := 0) (by decide +kernel) rfl rfl rfl) ?_
    refine gm_sz (gm_p_const (pc := 10) (i := .bipush 10) (v := gm_vi 10) (by decide +kernel) (by decide +kernel)) ?_
    refine gm_sz (gm_p_const (pc := 12) (i := .bipush 99) (v := gm_vi 99) (by decide +kernel) (by decide +kernel)) ?_
    refine gm_c_virt (k := 226) (ci := 11) (mj := 255) (ix := 142) (pc := 14) (as := [gm_vi 10, gm_vi 99]) (st := []) (d' := d - 1) (bc' := 0) (bs' := 0) (by decide +kernel) (by decide +kernel) (by decide +kernel) (by decide +kernel) (e0k hE (k := 226) (c := 11) (by decide +kernel)).1 (e0k hE (k := 226) (c := 11) (by decide +kernel)).2 (by decide) (by decide +kernel) (show 2 = gm_na 255 by decide +kernel) (fw_c2 fw_si fw_si) (show 3 ≤ gm_ml 255 by decide +kernel) (Nat.le_of_ble_eq_true rfl) (by omega) (Nat.zero_le _) (Nat.zero_le _) ?_
    refine rv_255 (by omega) hE hF hR hp9 rfl hb9 ⟨by decide, by decide⟩ ⟨by decide, by decide⟩ (fun h14 M14 hf14 hr14 => ?_) (fun h14 M14 hf14 h11_14 => ?_)
    · show gm_Wp X LX d _ _ 257 17 _ [gm_vi (tx_v f e 4 (tx_n f e b))] n K _ _ Q
      have h14 : vn f e 10 99 (tx_n f e b) := h14
      have hv14 : 10 ≤ tx_v f e 4 (tx_n f e b) ∧ tx_v f e 4 (tx_n f e b) ≤ 99 := h14.2
      have sb14 := tx_sb (f := f) (e := e) (b := (tx_n f e b)) hb9.2
      have hb14 := tx_nb (f := f) (e := e) (b := (tx_n f e b)) hb9.2
      have hp14 : 0 ≤ tx_s f e (tx_n f e b) ∧ tx_s f e (tx_n f e b) ≤ e := ⟨by have := hb9.1; omega, sb14.2.1⟩
      have hb14 : 0 ≤ tx_n f e (tx_n f e b) ∧ tx_n f e (tx_n f e b) ≤ e := ⟨by have := hb9.1; omega, hb14.2.1⟩
      refine gm_sz (gm_p_stor (pc := 17) (i := .istore_n 1) (sr := 0) (j := 1) (by decide +kernel) rfl (show 2 ≤ _ from Nat.le_of_ble_eq_true rfl) rfl) ?_
      refine gm_sz (gm_p_load (pc := 18) (i := .iload_n 1) (sr := 0) (j := 1) (by decide +kernel) rfl rfl rfl) ?_
      refine fw_ift (cc := .ge) (pc := 19) (off := 5) (by decide +kernel) (by decide) ⟨by omega, by omega⟩ (show 0 ≤ (tx_v f e 4 (tx_n f e b)) by omega) ?_
      refine gm_sz (gm_p_load (pc := 24) (i := .aload_n 0) (sr := 2) (j := 0) (by decide +kernel) rfl rfl rfl) ?_
      refine gm_sz (fw_gr (pc := 25) (ix := 13) (ci := 11) (j := 1) (r := 227) (by decide +kernel) (e0k hE (k := 226) (c := 11) (by decide +kernel)) (by decide +kernel) (by decide +kernel) (e0r hE (k := 226) (j := 1) (r := 227) (by decide +kernel))) ?_
      refine gm_sz (gm_p_const (pc := 28) (i := .iconst 1) (v := gm_vi 1) (by decide +kernel) (by decide +kernel)) ?_
      refine gm_sz (gm_p_load (pc := 29) (i := .iload_n 1) (sr := 0) (j := 1) (by decide +kernel) rfl rfl rfl) ?_
      refine gm_sz (fw_is (pc := 30) (k := 227) (len := 2093) (e0 := 1) (x := (tx_v f e 4 (tx_n f e b))) (M' := gm_uM M14 227 1 (tx_v f e 4 (tx_n f e b))) (by decide +kernel) (e0a hE (k := 227) (q := ((0 : Nat), (2093 : Nat))) (by decide +kernel)).1 (e0a hE (k := 227) (q := ((0 : Nat), (2093 : Nat))) (by decide +kernel)).2 (by decide) ⟨by omega, by omega⟩ rfl) ?_
      refine gm_sz (gm_p_load (pc := 31) (i := .aload_n 0) (sr := 2) (j := 0) (by decide +kernel) rfl rfl rfl) ?_
      refine gm_sz (fw_gr (pc := 32) (ix := 13) (ci := 11) (j := 1) (r := 227) (by decide +kernel) (e0k hE (k := 226) (c := 11) (by decide +kernel)) (by decide +kernel) (by decide +kernel) (e0r hE (k := 226) (j := 1) (r := 227) (by decide +kernel))) ?_
      refine gm_sz (gm_p_const (pc := 35) (i := .bipush 10) (v := gm_vi 10) (by decide +kernel) (by decide +kernel)) ?_
      refine gm_sz (gm_p_const (pc := 37) (i := .bipush 10) (v := gm_vi 10) (by decide +kernel) (by decide +kernel)) ?_
      refine gm_sz (fw_is (pc := 39) (k := 227) (len := 2093) (e0 := 10) (x := 10) (M' := gm_uM (gm_uM M14 227 1 (tx_v f e 4 (tx_n f e b))) 227 10 10) (by decide +kernel) (e0a hE (k := 227) (q := ((0 : Nat), (2093 : Nat))) (by decide +kernel)).1 (e0a hE (k := 227) (q := ((0 : Nat), (2093 : Nat))) (by decide +kernel)).2 (by decide) ⟨by omega, by omega⟩ rfl) ?_
      refine gm_sz (gm_p_const (pc := 40) (i := .iconst 1) (v := gm_vi 1) (by decide +kernel) (by decide +kernel)) ?_
      have ev : v_last f e N b = (true, (tx_n f e (tx_n f e b)), (nup (nup N 1 (tx_v f e 4 (tx_n f e b))) 10 10)) := by
        unfold v_last
        rw [tif_t h1, tif_t h14]
        first | done | rfl
      rw [ev] at q1
      exact gm_r_int (pc := 41) (by decide +kernel) (Or.inr ⟨(by decide +kernel), Or.inr rfl⟩) (q1 (tx_s f e (tx_n f e b)) _ (fr_p (fr_p (fr_t fr_0 hf14 (by decide)) (Or.inl (by decide))) (Or.inl (by decide))) (rw_fr (W := [((227 : Nat), some (1 : Int)), ((227 : Nat), some (10 : Int))]) hr14 (fr_p (fr_p fr_0 (Or.inr (by decide))) (Or.inr (by decide))) (by decide)) hp14 rfl (tr_ws (W := [((226 : Nat), some (9 : Int)), ((226 : Nat), some (11 : Int)), ((227 : Nat), none)]) hT ((ws_um ((ws_um (((ws_uf hf14 (by decide)).trans (hT.1))) ⟨by omega, by omega, by omega⟩)) ⟨by omega, by omega, by omega⟩)) (fr_p (fr_p (fr_t fr_0 hf14 (by decide)) (Or.inl (by decide))) (Or.inl (by decide))) (by decide)) ⟨fun j hj => ((uM_ne (by omega)).trans ((uM_ne (by omega)).trans (fr_c hf14 (by decide)))), ((uM_ne (by omega)).trans ((uM_ne (by omega)).trans (fr_c hf14 (by decide))))⟩ rfl)
    · show gm_Wp X LX d _ _ 257 17 _ [gm_vi (-1)] n K _ _ Q
      have h14 : ¬ vn f e 10 99 (tx_n f e b) := h14
      refine gm_sz (gm_p_stor (pc := 17) (i := .istore_n 1) (sr := 0) (j := 1) (by decide +kernel) rfl (show 2 ≤ _ from Nat.le_of_ble_eq_true rfl) rfl) ?_
      refine gm_sz (gm_p_load (pc := 18) (i := .iload_n 1) (sr := 0) (j := 1) (by decide +kernel) rfl rfl rfl) ?_
      refine fw_iffd (cc := .ge) (pc := 19) (off := 5) (by decide +kernel) (by decide) ⟨by decide, by decide⟩ (by decide) ?_
      refine gm_sz (gm_p_const (pc := 22) (i := .iconst 0) (v := gm_vi 0) (by decide +kernel) (by decide +kernel)) ?_
      have ev : v_last f e N b = (false, (tx_n f e b), N) := by
        unfold v_last
        rw [tif_t h1, tif_f h14]
        first | done | rfl
      rw [ev] at q0
      exact gm_r_int (pc := 23) (by decide +kernel) (Or.inr ⟨(by decide +kernel), Or.inl rfl⟩) (q0 _ (fr_t fr_0 hf14 (by decide)) h11_14 (fun h => by cases h))
  · show gm_Wp X LX d _ _ 257 4 _ [gm_vi 0] n K _ _ Q
    refine fw_iffd (cc := .ne) (pc := 4) (off := 5) (by decide +kernel) (by decide) ⟨by decide, by decide⟩ (by decide) ?_
    refine gm_sz (gm_p_const (pc := 7) (i := .iconst 0) (v := gm_vi 0) (by decide +kernel) (by decide +kernel)) ?_
    have ev : v_last f e N b = (false, b, N) := by
      unfold v_last
      rw [tif_f h1]
      first | done | rfl
    rw [ev] at q0
    exact gm_r_int (pc := 8) (by decide +kernel) (Or.inr ⟨(by decide +kernel), Or.inl rfl⟩) (q0 _ fr_0 hbg (fun h => by cases h))
theorem rv_262 (hd : 8 ≤ d) (hE : E0 n K R) (hF : VF f e) (hR : RW f e (tx_s f e b) M) (hbg : M 226 11 = b) (hb : 0 ≤ b ∧ b ≤ e) (hT : TR N h M) (hN : NR N) (q1 : ∀ (p2 : Int) M2, fr [((226 : Nat), some (9 : Int)), ((226 : Nat), some (11 : Int)), ((227 : Nat), none)] M M2 → RW f e p2 M2 → 0 ≤ p2 ∧ p2 ≤ e → tx_g f e p2 = (v_snow f e N b).2.1 → TR (v_snow f e N b).2.2 h M2 → BW M M2 → (v_snow f e N b).1 = true → Q (.inl (some (gm_vi 1))) n K R M2) (q0 : ∀ M2, fr [((226 : Nat), some (9 : Int)), ((226 : Nat), some (11 : Int)), ((227 : Nat), none)] M M2 → M2 226 11 = (v_snow f e N b).2.1 → ¬ (v_snow f e N b).1 = true → Q (.inl (some (gm_vi 0))) n K R M2) : gm_Wp X LX d bc bs 262 0 (gm_ent 262 [gm_vr 226]) [] n K R M Q := by
  obtain ⟨⟨⟨a0, b0⟩, ⟨a1, b1⟩, ⟨a10, b10⟩, ⟨a11, b11⟩, ⟨a12, b12⟩, a9, b9⟩, ⟨⟨a2, b2⟩, ⟨a5, b5⟩, ⟨a3, b3⟩, ⟨a4, b4⟩, ⟨a6, b6⟩, ⟨a14, b14⟩, ⟨a7, b7⟩, a13, b13⟩, rF, rP, rL⟩ := id hN
  have sb9 := tx_sb (f := f) (e := e) (b := b) hb.2
  have nb9 := tx_nb (f := f) (e := e) (b := b) hb.2
  have hp9 : 0 ≤ tx_s f e b ∧ tx_s f e b ≤ e := ⟨by have := hb.1; omega, sb9.2.1⟩
  have hb9 : 0 ≤ tx_n f e b ∧ tx_n f e b ≤ e := ⟨by have := hb.1; omega, nb9.2.1⟩
  refine gm_sz (gm_p_load (pc := 0) (i := .aload_n 0) (sr := 2) (j := 0) (by decide +kernel) rfl rfl rfl) ?_
  refine gm_c_virt (k := 226) (ci := 11) (mj := 263) (ix := 153) (pc := 1) (as := []) (st := []) (d' := d - 1) (bc' := 0) (bs' := 0) (by decide +kernel) (by decide +kernel) (by decide +kernel) (by decide +kernel) (e0k hE (k := 226) (c := 11) (by decide +kernel)).1 (e0k hE (k := 226) (c := 11) (by decide +kernel)).2 (by decide) (by decide +kernel) (show 0 = gm_na 263 by decide +kernel) fw_c0 (show 1 ≤ gm_ml 263 by decide +kernel) (Nat.le_of_ble_eq_true rfl) (by omega) (Nat.zero_le _) (Nat.zero_le _) ?_
  refine rv_263 (by omega) hE hF hR hp9 rfl hb9 hT hN (fun h1 M1 hf1 hr1 => ?_) (fun h1 M1 hf1 h11_1 => ?_)
  · show gm_Wp X LX d _ _ 262 4 _ [gm_vi (tx_v f e 4 (tx_n f e b))] n K _ _ Q
    have h1 : vn f e 0 (N 1 - 1) (tx_n f e b) := h1
    have hv1 : 0 ≤ tx_v f e 4 (tx_n f e b) ∧ tx_v f e 4 (tx_n f e b) ≤ N 1 - 1 := h1.2
    have sb1 := tx_sb (f := f) (e := e) (b := (tx_n f e b)) hb9.2
    have hb1 := tx_nb (f := f) (e := e) (b := (tx_n f e b)) hb9.2
    have hp1 : 0 ≤ tx_s f e (tx_n f e b) ∧ tx_s f e (tx_n f e b) ≤ e := ⟨by have := hb9.1; omega, sb1.2.1⟩
    have hb1 : 0 ≤ tx_n f e (tx_n f e b) ∧ tx_n f e (tx_n f e b) ≤ e := ⟨by have := hb9.1; omega, hb1.2.1⟩
    refine gm_sz (gm_p_stor (pc := 4) (i := .istore_n 1) (sr := 0) (j := 1) (by decide +kernel) rfl (show 2 ≤ _ from Nat.le_of_ble_eq_true rfl) rfl) ?_
    refine gm_sz (gm_p_load (pc := 5) (i := .iload_n 1) (sr := 0) (j := 1) (by decide +kernel) rfl rfl rfl) ?_
    refine fw_ift (cc := .ge) (pc := 6) (off := 7) (by decide +kernel) (by decide) ⟨by omega, by omega⟩ (show 0 ≤ (tx_v f e 4 (tx_n f e b)) by omega) ?_
    refine gm_sz (gm_p_load (pc := 13) (i := .aload_n 0) (sr := 2) (j := 0) (by decide +kernel) rfl rfl rfl) ?_
    refine gm_sz (gm_p_ldcs (pc := 14) (i := .ldc 156) (ix := 156) (id := 51) (by decide +kernel) (Or.inl rfl) (by decide +kernel)) ?_
    refine gm_sz (gm_p_const (pc := 16) (i := .iconst 0) (v := gm_vi 0) (by decide +kernel) (by decide +kernel)) ?_
    refine gm_sz (gm_p_const (pc := 17) (i := .bipush 9) (v := gm_vi 9) (by decide +kernel) (by decide +kernel)) ?_
    refine gm_c_virt (k := 226) (ci := 11) (mj := 264) (ix := 158) (pc := 19) (as := [gm_vo 51, gm_vi 0, gm_vi 9]) (st := []) (d' := d - 1) (bc' := 0) (bs' := 0) (by decide +kernel) (by decide +kernel) (by decide +kernel) (by decide +kernel) (e0k hE (k := 226) (c := 11) (by decide +kernel)).1 (e0k hE (k := 226) (c := 11) (by decide +kernel)).2 (by decide) (by decide +kernel) (show 3 = gm_na 264 by decide +kernel) (fw_c3 fw_so fw_si fw_si) (show 4 ≤ gm_ml 264 by decide +kernel) (Nat.le_of_ble_eq_true rfl) (by omega) (Nat.zero_le _) (Nat.zero_le _) ?_
    refine rv_264 (by omega) hE hF hr1 hp1 rfl hb1 (by decide) (show tx_o 51 = wv_fall by decide +kernel) (by decide) ⟨by decide, by decide⟩ ⟨by decide, by decide⟩ (fun u19 h19 M19 hf19 hr19 => ?_) (fun u19 h19 M19 hf19 h11_19 => ?_) (fun u19 M19 hf19 h11_19 => ?_)
    · show gm_Wp X LX d _ _ 262 22 _ [gm_vi (tx_v f e 4 (tx_n f e (tx_n f e (tx_n f e b))))] n K _ _ Q
      have u19 : tx_is f e (tx_n f e (tx_n f e b)) wv_fall := u19
      have h19 : vn f e 0 9 (tx_n f e (tx_n f e (tx_n f e b))) := h19
      have hv19 : 0 ≤ tx_v f e 4 (tx_n f e (tx_n f e (tx_n f e b))) ∧ tx_v f e 4 (tx_n f e (tx_n f e (tx_n f e b))) ≤ 9 := h19.2
      have sb19 := tx_sb (f := f) (e := e) (b := (tx_n f e (tx_n f e b))) hb1.2
      have hb19 := tx_nb (f := f) (e := e) (b := (tx_n f e (tx_n f e b))) hb1.2
      have hp19 : 0 ≤ tx_s f e (tx_n f e (tx_n f e b)) ∧ tx_s f e (tx_n f e (tx_n f e b)) ≤ e := ⟨by have := hb1.1; omega, sb19.2.1⟩
      have hb19 : 0 ≤ tx_n f e (tx_n f e (tx_n f e b)) ∧ tx_n f e (tx_n f e (tx_n f e b)) ≤ e := ⟨by have := hb1.1; omega, hb19.2.1⟩
      have sb19b := tx_sb (f := f) (e := e) (b := (tx_n f e (tx_n f e (tx_n f e b)))) hb19.2
      have hb19b := tx_nb (f := f) (e := e) (b := (tx_n f e (tx_n f e (tx_n f e b)))) hb19.2
      have hp19b : 0 ≤ tx_s f e (tx_n f e (tx_n f e (tx_n f e b))) ∧ tx_s f e (tx_n f e (tx_n f e (tx_n f e b))) ≤ e := ⟨by have := hb19.1; omega, sb19b.2.1⟩
      have hb19b : 0 ≤ tx_n f e (tx_n f e (tx_n f e (tx_n f e b))) ∧ tx_n f e (tx_n f e (tx_n f e (tx_n f e b))) ≤ e := ⟨by have := hb19.1; omega, hb19b.2.1⟩
      refine gm_sz (gm_p_stor (pc := 22) (i := .istore_n 2) (sr := 0) (j := 2) (by decide +kernel) rfl (show 3 ≤ _ from Nat.le_of_ble_eq_true rfl) rfl) ?_
      refine gm_sz (gm_p_load (pc := 23) (i := .iload_n 2) (sr := 0) (j := 2) (by decide +kernel) rfl rfl rfl) ?_
      refine fw_ift (cc := .ge) (pc := 24) (off := 5) (by decide +kernel) (by decide) ⟨by omega, by omega⟩ (show 0 ≤ (tx_v f e 4 (tx_n f e (tx_n f e (tx_n f e b)))) by omega) ?_
      refine gm_sz (gm_p_load (pc := 29) (i := .aload_n 0) (sr := 2) (j := 0) (by decide +kernel) rfl rfl rfl) ?_
      refine gm_sz (fw_gr (pc := 30) (ix := 13) (ci := 11) (j := 1) (r := 227) (by decide +kernel) (e0k hE (k := 226) (c := 11) (by decide +kernel)) (by decide +kernel) (by decide +kernel) (e0r hE (k := 226) (j := 1) (r := 227) (by decide +kernel))) ?_
      refine gm_sz (gm_p_const (pc := 33) (i := .bipush 10) (v := gm_vi 10) (by decide +kernel) (by decide +kernel)) ?_
      refine gm_sz (gm_p_load (pc := 35) (i := .iload_n 1) (sr := 0) (j := 1) (by decide +kernel) rfl rfl rfl) ?_
      refine gm_sz (fw_is (pc := 36) (k := 227) (len := 2093) (e0 := 10) (x := (tx_v f e 4 (tx_n f e b))) (M' := gm_uM M19 227 10 (tx_v f e 4 (tx_n f e b))) (by decide +kernel) (e0a hE (k := 227) (q := ((0 : Nat), (2093 : Nat))) (by decide +kernel)).1 (e0a hE (k := 227) (q := ((0 : Nat), (2093 : Nat))) (by decide +kernel)).2 (by decide) ⟨by omega, by omega⟩ rfl) ?_
      refine gm_sz (gm_p_load (pc := 37) (i := .aload_n 0) (sr := 2) (j := 0) (by decide +kernel) rfl rfl rfl) ?_
      refine gm_sz (fw_gr (pc := 38) (ix := 13) (ci := 11) (j := 1) (r := 227) (by decide +kernel) (e0k hE (k := 226) (c := 11) (by decide +kernel)) (by decide +kernel) (by decide +kernel) (e0r hE (k := 226) (j := 1) (r := 227) (by decide +kernel))) ?_
      refine gm_sz (gm_p_const (pc := 41) (i := .bipush 11) (v := gm_vi 11) (by decide +kernel) (by decide +kernel)) ?_
      refine gm_sz (gm_p_load (pc := 43) (i := .iload_n 2) (sr := 0) (j := 2) (by decide +kernel) rfl rfl rfl) ?_
      refine gm_sz (fw_is (pc := 44) (k := 227) (len := 2093) (e0 := 11) (x := (tx_v f e 4 (tx_n f e (tx_n f e (tx_n f e b))))) (M' := gm_uM (gm_uM M19 227 10 (tx_v f e 4 (tx_n f e b))) 227 11 (tx_v f e 4 (tx_n f e (tx_n f e (tx_n f e b))))) (by decide +kernel) (e0a hE (k := 227) (q := ((0 : Nat), (2093 : Nat))) (by decide +kernel)).1 (e0a hE (k := 227) (q := ((0 : Nat), (2093 : Nat))) (by decide +kernel)).2 (by decide) ⟨by omega, by omega⟩ rfl) ?_
      refine gm_sz (gm_p_const (pc := 45) (i := .iconst 1) (v := gm_vi 1) (by decide +kernel) (by decide +kernel)) ?_
      have ev : v_snow f e N b = (true, (tx_n f e (tx_n f e (tx_n f e (tx_n f e b)))), (nup (nup N 10 (tx_v f e 4 (tx_n f e b))) 11 (tx_v f e 4 (tx_n f e (tx_n f e (tx_n f e b)))))) := by
        unfold v_snow
        rw [tif_t h1, tif_t u19, tif_t h19]
        first | done | rfl
      rw [ev] at q1
      exact gm_r_int (pc := 46) (by decide +kernel) (Or.inr ⟨(by decide +kernel), Or.inr rfl⟩) (q1 (tx_s f e (tx_n f e (tx_n f e (tx_n f e b)))) _ (fr_p (fr_p (fr_t (fr_t fr_0 hf1 (by decide)) hf19 (by decide)) (Or.inl (by decide))) (Or.inl (by decide))) (rw_fr (W := [((227 : Nat), some (10 : Int)), ((227 : Nat), some (11 : Int))]) hr19 (fr_p (fr_p fr_0 (Or.inr (by decide))) (Or.inr (by decide))) (by decide)) hp19b rfl (tr_ws (W := [((226 : Nat), some (9 : Int)), ((226 : Nat), some (11 : Int)), ((227 : Nat), none)]) hT ((ws_um ((ws_um (((ws_uf hf19 (by decide)).trans (((ws_uf hf1 (by decide)).trans (hT.1))))) ⟨by omega, by omega, by omega⟩)) ⟨by omega, by omega, by omega⟩)) (fr_p (fr_p (fr_t (fr_t fr_0 hf1 (by decide)) hf19 (by decide)) (Or.inl (by decide))) (Or.inl (by decide))) (by decide)) ⟨fun j hj => ((uM_ne (by omega)).trans ((uM_ne (by omega)).trans ((fr_c hf19 (by decide)).trans (fr_c hf1 (by decide))))), ((uM_ne (by omega)).trans ((uM_ne (by omega)).trans ((fr_c hf19 (by decide)).trans (fr_c hf1 (by decide)))))⟩ rfl)
    · show gm_Wp X LX d _ _ 262 22 _ [gm_vi (-1)] n K _ _ Q
      have u19 : tx_is f e (tx_n f e (tx_n f e b)) wv_fall := u19
      have h19 : ¬ vn f e 0 9 (tx_n f e (tx_n f e (tx_n f e b))) := h19
      refine gm_sz (gm_p_stor (pc := 22) (i := .istore_n 2) (sr := 0) (j := 2) (by decide +kernel) rfl (show 3 ≤ _ from Nat.le_of_ble_eq_true rfl) rfl) ?_
      refine gm_sz (gm_p_load (pc := 23) (i := .iload_n 2) (sr := 0) (j := 2) (by decide +kernel) rfl rfl rfl) ?_
      refine fw_iffd (cc := .ge) (pc := 24) (off := 5) (by decide +kernel) (by decide) ⟨by decide, by decide⟩ (by decide) ?_
      refine gm_sz (gm_p_const (pc := 27) (i := .iconst 0) (v := gm_vi 0) (by decide +kernel) (by decide +kernel)) ?_
      have ev : v_snow f e N b = (false, (tx_n f e (tx_n f e (tx_n f e b))), N) := by
        unfold v_snow
        rw [tif_t h1, tif_t u19, tif_f h19]
        first | done | rfl
      rw [ev] at q0
      exact gm_r_int (pc := 28) (by decide +kernel) (Or.inr ⟨(by decide +kernel), Or.inl rfl⟩) (q0 _ (fr_t (fr_t fr_0 hf1 (by decide)) hf19 (by decide)) h11_19 (fun h => by cases h))
    · show gm_Wp X LX d _ _ 262 22 _ [gm_vi (-1)] n K _ _ Q
      have u19 : ¬ tx_is f e (tx_n f e (tx_n f e b)) wv_fall := u19
      refine gm_sz (gm_p_stor (pc := 22) (i := .istore_n 2) (sr := 0) (j := 2) (by decide +kernel) rfl (show 3 ≤ _ from Nat.le_of_ble_eq_true rfl) rfl) ?_
      refine gm_sz (gm_p_load (pc := 23) (i := .iload_n 2) (sr := 0) (j := 2) (by decide +kernel) rfl rfl rfl) ?_
      refine fw_iffd (cc := .ge) (pc := 24) (off := 5) (by decide +kernel) (by decide) ⟨by decide, by decide⟩ (by decide) ?_
      refine gm_sz (gm_p_const (pc := 27) (i := .iconst 0) (v := gm_vi 0) (by decide +kernel) (by decide +kernel)) ?_
      have ev : v_snow f e N b = (false, (tx_n f e (tx_n f e b)), N) := by
        unfold v_snow
        rw [tif_t h1, tif_f u19]
        first | done | rfl
      rw [ev] at q0
      exact gm_r_int (pc := 28) (by decide +kernel) (Or.inr ⟨(by decide +kernel), Or.inl rfl⟩) (q0 _ (fr_t (fr_t fr_0 hf1 (by decide)) hf19 (by decide)) h11_19 (fun h => by cases h))
  · show gm_Wp X LX d _ _ 262 4 _ [gm_vi (-1)] n K _ _ Q
    have h1 : ¬ vn f e 0 (N 1 - 1) (tx_n f e b) := h1
    refine gm_sz (gm_p_stor (pc := 4) (i := .istore_n 1) (sr := 0) (j := 1) (by decide +kernel) rfl (show 2 ≤ _ from Nat.le_of_ble_eq_true rfl) rfl) ?_
    refine gm_sz (gm_p_load (pc := 5) (i := .iload_n 1) (sr := 0) (j := 1) (by decide +kernel) rfl rfl rfl) ?_
    refine fw_iffd (cc := .ge) (pc := 6) (off := 7) (by decide +kernel) (by decide) ⟨by decide, by decide⟩ (by decide) ?_
    refine gm_sz (gm_p_const (pc := 9) (i := .iconst (-1)) (v := gm_vi (-1)) (by decide +kernel) (by decide +kernel)) ?_
    refine gm_sz (gm_p_goto (pc := 10) (off := 12) (by decide +kernel) (by decide)) ?_
    refine gm_sz (gm_p_stor (pc := 22) (i := .istore_n 2) (sr := 0) (j := 2) (by decide +kernel) rfl (show 3 ≤ _ from Nat.le_of_ble_eq_true rfl) rfl) ?_
    refine gm_sz (gm_p_load (pc := 23) (i := .iload_n 2) (sr := 0) (j := 2) (by decide +kernel) rfl rfl rfl) ?_
    refine fw_iffd (cc := .ge) (pc := 24) (off := 5) (by decide +kernel) (by decide) ⟨by decide, by decide⟩ (by decide) ?_
    refine gm_sz (gm_p_const (pc := 27) (i := .iconst 0) (v := gm_vi 0) (by decide +kernel) (by decide +kernel)) ?_
    have ev : v_snow f e N b = (false, (tx_n f e b), N) := by
      unfold v_snow
      rw [tif_f h1]
      first | done | rfl
    rw [ev] at q0
    exact gm_r_int (pc := 28) (by decide +kernel) (Or.inr ⟨(by decide +kernel), Or.inl rfl⟩) (q0 _ (fr_t fr_0 hf1 (by decide)) h11_1 (fun h => by cases h))
theorem rv_265 (hd : 6 ≤ d) (hE : E0 n K R) (hF : VF f e) (hR : RW f e (tx_s f e b) M) (hbg : M 226 11 = b) (hb : 0 ≤ b ∧ b ≤ e) (hT : TR N h M) (hN : NR N) (q1 : ∀ (p2 : Int) M2, fr [((226 : Nat), some (9 : Int)), ((226 : Nat), some (11 : Int)), ((227 : Nat), none)] M M2 → RW f e p2 M2 → 0 ≤ p2 ∧ p2 ≤ e → tx_g f e p2 = (v_flood f e N b).2.1 → TR (v_flood f e N b).2.2 h M2 → BW M M2 → (v_flood f e N b).1 = true → Q (.inl (some (gm_vi 1))) n K R M2) (q0 : ∀ M2, fr [((226 : Nat), some (9 : Int)), ((226 : Nat), some (11 : Int)), ((227 : Nat), none)] M M2 → M2 226 11 = (v_flood f e N b).2.1 → ¬ (v_flood f e N b).1 = true → Q (.inl (some (gm_vi 0))) n K R M2) : gm_Wp X LX d bc bs 265 0 (gm_ent 265 [gm_vr 226]) [] n K R M Q := by
  obtain ⟨⟨⟨a0, b0⟩, ⟨a1, b1⟩, ⟨a10, b10⟩, ⟨a11, b11⟩, ⟨a12, b12⟩, a9, b9⟩, ⟨⟨a2, b2⟩, ⟨a5, b5⟩, ⟨a3, b3⟩, ⟨a4, b4⟩, ⟨a6, b6⟩, ⟨a14, b14⟩, ⟨a7, b7⟩, a13, b13⟩, rF, rP, rL⟩ := id hN
  have sb9 := tx_sb (f := f) (e := e) (b := b) hb.2
  have nb9 := tx_nb (f := f) (e := e) (b := b) hb.2
  have hp9 : 0 ≤ tx_s f e b ∧ tx_s f e b ≤ e := ⟨by have := hb.1; omega, sb9.2.1⟩
  have hb9 : 0 ≤ tx_n f e b ∧ tx_n f e b ≤ e := ⟨by have := hb.1; omega, nb9.2.1⟩
  refine gm_sz (gm_p_const (pc := 0) (i := .bipush 71) (v := gm_vi 71) (by decide +kernel) (by decide +kernel)) ?_
  refine gm_sz (gm_p_const (pc := 2) (i := .iconst 3) (v := gm_vi 3) (by decide +kernel) (by decide +kernel)) ?_
  refine gm_sz (gm_p_load (pc := 3) (i := .aload_n 0) (sr := 2) (j := 0) (by decide +kernel) rfl rfl rfl) ?_
  refine gm_sz (fw_gr (pc := 4) (ix := 13) (ci := 11) (j := 1) (r := 227) (by decide +kernel) (e0k hE (k := 226) (c := 11) (by decide +kernel)) (by decide +kernel) (by decide +kernel) (e0r hE (k := 226) (j := 1) (r := 227) (by decide +kernel))) ?_
  refine gm_sz (gm_p_const (pc := 7) (i := .iconst 5) (v := gm_vi 5) (by decide +kernel) (by decide +kernel)) ?_
  refine gm_sz (fw_ia (pc := 8) (k := 227) (len := 2093) (e0 := 5) (x := N 5) (by decide +kernel) (e0a hE (k := 227) (q := ((0 : Nat), (2093 : Nat))) (by decide +kernel)).1 (e0a hE (k := 227) (q := ((0 : Nat), (2093 : Nat))) (by decide +kernel)).2 (by decide) ⟨by omega, by omega⟩ (tr_w hT (by decide) (by decide) (by decide))) ?_
  refine gm_sz (gm_p_bin (pc := 9) (i := .imul) (f := fun x y => x * y) (by decide +kernel) rfl) ?_
  refine gm_sz (gm_p_bin (pc := 10) (i := .iadd) (f := fun x y => x + y) (by decide +kernel) rfl) ?_
  refine gm_sz (gm_p_stor (pc := 11) (i := .istore_n 1) (sr := 0) (j := 1) (by decide +kernel) rfl (show 2 ≤ _ from Nat.le_of_ble_eq_true rfl) rfl) ?_
  refine gm_sz (gm_p_load (pc := 12) (i := .aload_n 0) (sr := 2) (j := 0) (by decide +kernel) rfl rfl rfl) ?_
  refine gm_sz (fw_gr (pc := 13) (ix := 13) (ci := 11) (j := 1) (r := 227) (by decide +kernel) (e0k hE (k := 226) (c := 11) (by decide +kernel)) (by decide +kernel) (by decide +kernel) (e0r hE (k := 226) (j := 1) (r := 227) (by decide +kernel))) ?_
  refine gm_sz (gm_p_const (pc := 16) (i := .iconst 5) (v := gm_vi 5) (by decide +kernel) (by decide +kernel)) ?_
  refine gm_sz (fw_ia (pc := 17) (k := 227) (len := 2093) (e0 := 5) (x := N 5) (by decide +kernel) (e0a hE (k := 227) (q := ((0 : Nat), (2093 : Nat))) (by decide +kernel)).1 (e0a hE (k := 227) (q := ((0 : Nat), (2093 : Nat))) (by decide +kernel)).2 (by decide) ⟨by omega, by omega⟩ (tr_w hT (by decide) (by decide) (by decide))) ?_
  refine gm_sz (gm_p_const (pc := 18) (i := .bipush 8) (v := gm_vi 8) (by decide +kernel) (by decide +kernel)) ?_
  refine fw_ic (cc := .ne) (pc := 20) (off := 5) (by decide +kernel) (by decide) ⟨by omega, by omega⟩ ⟨by decide, by decide⟩ (fun h20 => ?_) (fun h20 => ?_)
  · have h20 : ¬ (N 5) = 8 := h20
    refine gm_sz (gm_p_load (pc := 25) (i := .aload_n 0) (sr := 2) (j := 0) (by decide +kernel) rfl rfl rfl) ?_
    refine gm_sz (gm_p_load (pc := 26) (i := .aload_n 0) (sr := 2) (j := 0) (by decide +kernel) rfl rfl rfl) ?_
    refine gm_c_virt (k := 226) (ci := 11) (mj := 266) (ix := 162) (pc := 27) (as := []) (st := [gm_vr 226]) (d' := d - 1) (bc' := 0) (bs' := 0) (by decide +kernel) (by decide +kernel) (by decide +kernel) (by decide +kernel) (e0k hE (k := 226) (c := 11) (by decide +kernel)).1 (e0k hE (k := 226) (c := 11) (by decide +kernel)).2 (by decide) (by decide +kernel) (show 0 = gm_na 266 by decide +kernel) fw_c0 (show 1 ≤ gm_ml 266 by decide +kernel) (Nat.le_of_ble_eq_true rfl) (by omega) (Nat.zero_le _) (Nat.zero_le _) ?_
    refine re_now9 hE (tr_w hT (by decide) (by decide) (by decide)) ?_
    show gm_Wp X LX d _ _ 265 30 _ [gm_vi (N 9), gm_vr 226] n K _ _ Q
    refine gm_sz (gm_p_const (pc := 30) (i := .sipush 299) (v := gm_vi 299) (by decide +kernel) (by decide +kernel)) ?_
    refine gm_c_virt (k := 226) (ci := 11) (mj := 255) (ix := 142) (pc := 33) (as := [gm_vi (N 9), gm_vi 299]) (st := []) (d' := d - 1) (bc' := 0) (bs' := 0) (by decide +kernel) (by decide +kernel) (by decide +kernel) (by decide +kernel) (e0k hE (k := 226) (c := 11) (by decide +kernel)).1 (e0k hE (k := 226) (c := 11) (by decide +kernel)).2 (by decide) (by decide +kernel) (show 2 = gm_na 255 by decide +kernel) (fw_c2 fw_si fw_si) (show 3 ≤ gm_ml 255 by decide +kernel) (Nat.le_of_ble_eq_true rfl) (by omega) (Nat.zero_le _) (Nat.zero_le _) ?_
    refine rv_255 (by omega) hE hF hR hp9 rfl hb9 ⟨by omega, by omega⟩ ⟨by decide, by decide⟩ (fun h33 M33 hf33 hr33 => ?_) (fun h33 M33 hf33 h11_33 => ?_)
    · show gm_Wp X LX d _ _ 265 36 _ [gm_vi (tx_v f e 4 (tx_n f e b))] n K _ _ Q
      have h33 : vn f e (N 9) 299 (tx_n f e b) := h33
      have hv33 : N 9 ≤ tx_v f e 4 (tx_n f e b) ∧ tx_v f e 4 (tx_n f e b) ≤ 299 := h33.2
      have sb33 := tx_sb (f := f) (e := e) (b := (tx_n f e b)) hb9.2
      have hb33 := tx_nb (f := f) (e := e) (b := (tx_n f e b)) hb9.2
      have hp33 : 0 ≤ tx_s f e (tx_n f e b) ∧ tx_s f e (tx_n f e b) ≤ e := ⟨by have := hb9.1; omega, sb33.2.1⟩
      have hb33 : 0 ≤ tx_n f e (tx_n f e b) ∧ tx_n f e (tx_n f e b) ≤ e := ⟨by have := hb9.1; omega, hb33.2.1⟩
      refine gm_sz (gm_p_stor (pc := 36) (i := .istore_n 2) (sr := 0) (j := 2) (by decide +kernel) rfl (show 3 ≤ _ from Nat.le_of_ble_eq_true rfl) rfl) ?_
      refine gm_sz (gm_p_load (pc := 37) (i := .iload_n 2) (sr := 0) (j := 2) (by decide +kernel) rfl rfl rfl) ?_
      refine fw_ift (cc := .ge) (pc := 38) (off := 7) (by decide +kernel) (by decide) ⟨by omega, by omega⟩ (show 0 ≤ (tx_v f e 4 (tx_n f e b)) by omega) ?_
      refine gm_sz (gm_p_load (pc := 45) (i := .aload_n 0) (sr := 2) (j := 0) (by decide +kernel) rfl rfl rfl) ?_
      refine gm_c_virt (k := 226) (ci := 11) (mj := 263) (ix := 153) (pc := 46) (as := []) (st := []) (d' := d - 1) (bc' := 0) (bs' := 0) (by decide +kernel) (by decide +kernel) (by decide +kernel) (by decide +kernel) (e0k hE (k := 226) (c := 11) (by decide +kernel)).1 (e0k hE (k := 226) (c := 11) (by decide +kernel)).2 (by decide) (by decide +kernel) (show 0 = gm_na 263 by decide +kernel) fw_c0 (show 1 ≤ gm_ml 263 by decide +kernel) (Nat.le_of_ble_eq_true rfl) (by omega) (Nat.zero_le _) (Nat.zero_le _) ?_
      refine rv_263 (by omega) hE hF hr33 hp33 rfl hb33 (tr_fr (W := [((226 : Nat), some (9 : Int)), ((226 : Nat), some (11 : Int))]) hT (fr_t fr_0 hf33 (by decide)) (by decide)) hN (fun h46 M46 hf46 hr46 => ?_) (fun h46 M46 hf46 h11_46 => ?_)
      · show gm_Wp X LX d _ _ 265 49 _ [gm_vi (tx_v f e 4 (tx_n f e (tx_n f e b)))] n K _ _ Q
        have h46 : vn f e 0 (N 1 - 1) (tx_n f e (tx_n f e b)) := h46
        have hv46 : 0 ≤ tx_v f e 4 (tx_n f e (tx_n f e b)) ∧ tx_v f e 4 (tx_n f e (tx_n f e b)) ≤ N 1 - 1 := h46.2
        have sb46 := tx_sb (f := f) (e := e) (b := (tx_n f e (tx_n f e b))) hb33.2
        have hb46 := tx_nb (f := f) (e := e) (b := (tx_n f e (tx_n f e b))) hb33.2
        have hp46 : 0 ≤ tx_s f e (tx_n f e (tx_n f e b)) ∧ tx_s f e (tx_n f e (tx_n f e b)) ≤ e := ⟨by have := hb33.1; omega, sb46.2.1⟩
        have hb46 : 0 ≤ tx_n f e (tx_n f e (tx_n f e b)) ∧ tx_n f e (tx_n f e (tx_n f e b)) ≤ e := ⟨by have := hb33.1; omega, hb46.2.1⟩
        refine gm_sz (gm_p_stor (pc := 49) (i := .istore_n 3) (sr := 0) (j := 3) (by decide +kernel) rfl (show 4 ≤ _ from Nat.le_of_ble_eq_true rfl) rfl) ?_
        refine gm_sz (gm_p_load (pc := 50) (i := .iload_n 3) (sr := 0) (j := 3) (by decide +kernel) rfl rfl rfl) ?_
        refine fw_ift (cc := .ge) (pc := 51) (off := 7) (by decide +kernel) (by decide) ⟨by omega, by omega⟩ (show 0 ≤ (tx_v f e 4 (tx_n f e (tx_n f e b))) by omega) ?_
        refine gm_sz (gm_p_load (pc := 58) (i := .aload_n 0) (sr := 2) (j := 0) (by decide +kernel) rfl rfl rfl) ?_
        refine gm_sz (gm_p_const (pc := 59) (i := .iconst 1) (v := gm_vi 1) (by decide +kernel) (by decide +kernel)) ?_
        refine gm_sz (gm_p_const (pc := 60) (i := .bipush 20) (v := gm_vi 20) (by decide +kernel) (by decide +kernel)) ?_
        refine gm_c_virt (k := 226) (ci := 11) (mj := 255) (ix := 142) (pc := 62) (as := [gm_vi 1, gm_vi 20]) (st := []) (d' := d - 1) (bc' := 0) (bs' := 0) (by decide +kernel) (by decide +kernel) (by decide +kernel) (by decide +kernel) (e0k hE (k := 226) (c := 11) (by decide +kernel)).1 (e0k hE (k := 226) (c := 11) (by decide +kernel)).2 (by decide) (by decide +kernel) (show 2 = gm_na 255 by decide +kernel) (fw_c2 fw_si fw_si) (show 3 ≤ gm_ml 255 by decide +kernel) (Nat.le_of_ble_eq_true rfl) (by omega) (Nat.zero_le _) (Nat.zero_le _) ?_
        refine rv_255 (by omega) hE hF hr46 hp46 rfl hb46 ⟨by decide, by decide⟩ ⟨by decide, by decide⟩ (fun h62 M62 hf62 hr62 => ?_) (fun h62 M62 hf62 h11_62 => ?_)
        · show gm_Wp X LX d _ _ 265 65 _ [gm_vi (tx_v f e 4 (tx_n f e (tx_n f e (tx_n f e b))))] n K _ _ Q
          have h62 : vn f e 1 20 (tx_n f e (tx_n f e (tx_n f e b))) := h62
          have hv62 : 1 ≤ tx_v f e 4 (tx_n f e (tx_n f e (tx_n f e b))) ∧ tx_v f e 4 (tx_n f e (tx_n f e (tx_n f e b))) ≤ 20 := h62.2
          have sb62 := tx_sb (f := f) (e := e) (b := (tx_n f e (tx_n f e (tx_n f e b)))) hb46.2
          have hb62 := tx_nb (f := f) (e := e) (b := (tx_n f e (tx_n f e (tx_n f e b)))) hb46.2
          have hp62 : 0 ≤ tx_s f e (tx_n f e (tx_n f e (tx_n f e b))) ∧ tx_s f e (tx_n f e (tx_n f e (tx_n f e b))) ≤ e := ⟨by have := hb46.1; omega, sb62.2.1⟩
          have hb62 : 0 ≤ tx_n f e (tx_n f e (tx_n f e (tx_n f e b))) ∧ tx_n f e (tx_n f e (tx_n f e (tx_n f e b))) ≤ e := ⟨by have := hb46.1; omega, hb62.2.1⟩
          refine gm_sz (gm_p_stor (pc := 65) (i := .istore 4) (sr := 0) (j := 4) (by decide +kernel) rfl (show 5 ≤ _ from Nat.le_of_ble_eq_true rfl) rfl) ?_
          refine gm_sz (gm_p_load (pc := 67) (i := .iload 4) (sr := 0) (j := 4) (by decide +kernel) rfl rfl rfl) ?_
          refine fw_ift (cc := .ge) (pc := 69) (off := 5) (by decide +kernel) (by decide) ⟨by omega, by omega⟩ (show 0 ≤ (tx_v f e 4 (tx_n f e (tx_n f e (tx_n f e b)))) by omega) ?_
          refine gm_sz (gm_p_load (pc := 74) (i := .aload_n 0) (sr := 2) (j := 0) (by decide +kernel) rfl rfl rfl) ?_
          refine gm_sz (fw_gr (pc := 75) (ix := 13) (ci := 11) (j := 1) (r := 227) (by decide +kernel) (e0k hE (k := 226) (c := 11) (by decide +kernel)) (by decide +kernel) (by decide +kernel) (e0r hE (k := 226) (j := 1) (r := 227) (by decide +kernel))) ?_
          refine gm_sz (gm_p_load (pc := 78) (i := .iload_n 1) (sr := 0) (j := 1) (by decide +kernel) rfl rfl rfl) ?_
          refine gm_sz (gm_p_load (pc := 79) (i := .iload_n 2) (sr := 0) (j := 2) (by decide +kernel) rfl rfl rfl) ?_
          refine gm_sz (fw_is (pc := 80) (k := 227) (len := 2093) (e0 := 71 + (3 * (N 5))) (x := (tx_v f e 4 (tx_n f e b))) (M' := gm_uM M62 227 (71 + (3 * (N 5))) (tx_v f e 4 (tx_n f e b))) (by decide +kernel) (e0a hE (k := 227) (q := ((0 : Nat), (2093 : Nat))) (by decide +kernel)).1 (e0a hE (k := 227) (q := ((0 : Nat), (2093 : Nat))) (by decide +kernel)).2 (by decide) ⟨by omega, by omega⟩ rfl) ?_
          refine gm_sz (gm_p_load (pc := 81) (i := .aload_n 0) (sr := 2) (j := 0) (by decide +kernel) rfl rfl rfl) ?_
          refine gm_sz (fw_gr (pc := 82) (ix := 13) (ci := 11) (j := 1) (r := 227) (by decide +kernel) (e0k hE (k := 226) (c := 11) (by decide +kernel)) (by decide +kernel) (by decide +kernel) (e0r hE (k := 226) (j := 1) (r := 227) (by decide +kernel))) ?_
          refine gm_sz (gm_p_load (pc := 85) (i := .iload_n 1) (sr := 0) (j := 1) (by decide +kernel) rfl rfl rfl) ?_
          refine gm_sz (gm_p_const (pc := 86) (i := .iconst 1) (v := gm_vi 1) (by decide +kernel) (by decide +kernel)) ?_
          refine gm_sz (gm_p_bin (pc := 87) (i := .iadd) (f := fun x y => x + y) (by decide +kernel) rfl) ?_
          refine gm_sz (gm_p_load (pc := 88) (i := .iload_n 3) (sr := 0) (j := 3) (by decide +kernel) rfl rfl rfl) ?_
          refine gm_sz (fw_is (pc := 89) (k := 227) (len := 2093) (e0 := (71 + (3 * (N 5))) + 1) (x := (tx_v f e 4 (tx_n f e (tx_n f e b)))) (M' := gm_uM (gm_uM M62 227 (71 + (3 * (N 5))) (tx_v f e 4 (tx_n f e b))) 227 ((71 + (3 * (N 5))) + 1) (tx_v f e 4 (tx_n f e (tx_n f e b)))) (by decide +kernel) (e0a hE (k := 227) (q := ((0 : Nat), (2093 : Nat))) (by decide +kernel)).1 (e0a hE (k := 227) (q := ((0 : Nat), (2093 : Nat))) (by decide +kernel)).2 (by decide) ⟨by omega, by omega⟩ rfl) ?_
          refine gm_sz (gm_p_load (pc := 90) (i := .aload_n 0) (sr := 2) (j := 0) (by decide +kernel) rfl rfl rfl) ?_
          refine gm_sz (fw_gr (pc := 91) (ix := 13) (ci := 11) (j := 1) (r := 227) (by decide +kernel) (e0k hE (k := 226) (c := 11) (by decide +kernel)) (by decide +kernel) (by decide +kernel) (e0r hE (k := 226) (j := 1) (r := 227) (by decide +kernel))) ?_
          refine gm_sz (gm_p_load (pc := 94) (i := .iload_n 1) (sr := 0) (j := 1) (by decide +kernel) rfl rfl rfl) ?_
          refine gm_sz (gm_p_const (pc := 95) (i := .iconst 2) (v := gm_vi 2) (by decide +kernel) (by decide +kernel)) ?_
          refine gm_sz (gm_p_bin (pc := 96) (i := .iadd) (f := fun x y => x + y) (by decide +kernel) rfl) ?_
          refine gm_sz (gm_p_load (pc := 97) (i := .iload 4) (sr := 0) (j := 4) (by decide +kernel) rfl rfl rfl) ?_
          refine gm_sz (fw_is (pc := 99) (k := 227) (len := 2093) (e0 := (71 + (3 * (N 5))) + 2) (x := (tx_v f e 4 (tx_n f e (tx_n f e (tx_n f e b))))) (M' := gm_uM (gm_uM (gm_uM M62 227 (71 + (3 * (N 5))) (tx_v f e 4 (tx_n f e b))) 227 ((71 + (3 * (N 5))) + 1) (tx_v f e 4 (tx_n f e (tx_n f e b)))) 227 ((71 + (3 * (N 5))) + 2) (tx_v f e 4 (tx_n f e (tx_n f e (tx_n f e b))))) (by decide +kernel) (e0a hE (k := 227) (q := ((0 : Nat), (2093 : Nat))) (by decide +kernel)).1 (e0a hE (k := 227) (q := ((0 : Nat), (2093 : Nat))) (by decide +kernel)).2 (by decide) ⟨by omega, by omega⟩ rfl) ?_
          refine gm_sz (gm_p_load (pc := 100) (i := .aload_n 0) (sr := 2) (j := 0) (by decide +kernel) rfl rfl rfl) ?_
          refine gm_sz (fw_gr (pc := 101) (ix := 13) (ci := 11) (j := 1) (r := 227) (by decide +kernel) (e0k hE (k := 226) (c := 11) (by decide +kernel)) (by decide +kernel) (by decide +kernel) (e0r hE (k := 226) (j := 1) (r := 227) (by decide +kernel))) ?_
          refine gm_sz (gm_p_const (pc := 104) (i := .iconst 5) (v := gm_vi 5) (by decide +kernel) (by decide +kernel)) ?_
          refine gm_sz (gm_p_dup2 (pc := 105) (by decide +kernel) fw_si fw_sr) ?_
          refine gm_sz (fw_ia (pc := 106) (k := 227) (len := 2093) (e0 := 5) (x := N 5) (by decide +kernel) (e0a hE (k := 227) (q := ((0 : Nat), (2093 : Nat))) (by decide +kernel)).1 (e0a hE (k := 227) (q := ((0 : Nat), (2093 : Nat))) (by decide +kernel)).2 (by decide) ⟨by omega, by omega⟩ ((uM_ne (by omega)).trans ((uM_ne (by omega)).trans ((uM_ne (by omega)).trans ((fr_c hf62 (by decide)).trans ((fr_c hf46 (by decide)).trans ((fr_c hf33 (by decide)).trans (tr_w hT (by decide) (by decide) (by decide))))))))) ?_
          refine gm_sz (gm_p_const (pc := 107) (i := .iconst 1) (v := gm_vi 1) (by decide +kernel) (by decide +kernel)) ?_
          refine gm_sz (gm_p_bin (pc := 108) (i := .iadd) (f := fun x y => x + y) (by decide +kernel) rfl) ?_
          refine gm_sz (fw_is (pc := 109) (k := 227) (len := 2093) (e0 := 5) (x := (N 5) + 1) (M' := gm_uM (gm_uM (gm_uM (gm_uM M62 227 (71 + (3 * (N 5))) (tx_v f e 4 (tx_n f e b))) 227 ((71 + (3 * (N 5))) + 1) (tx_v f e 4 (tx_n f e (tx_n f e b)))) 227 ((71 + (3 * (N 5))) + 2) (tx_v f e 4 (tx_n f e (tx_n f e (tx_n f e b))))) 227 5 ((N 5) + 1)) (by decide +kernel) (e0a hE (k := 227) (q := ((0 : Nat), (2093 : Nat))) (by decide +kernel)).1 (e0a hE (k := 227) (q := ((0 : Nat), (2093 : Nat))) (by decide +kernel)).2 (by decide) ⟨by omega, by omega⟩ rfl) ?_
          refine gm_sz (gm_p_const (pc := 110) (i := .iconst 1) (v := gm_vi 1) (by decide +kernel) (by decide +kernel)) ?_
          have ew : (nup (nup (nup (nup N (71 + ((N 5) * 3 + 0)) (tx_v f e 4 (tx_n f e b))) (71 + ((N 5) * 3 + 1)) (tx_v f e 4 (tx_n f e (tx_n f e b)))) (71 + ((N 5) * 3 + 2)) (tx_v f e 4 (tx_n f e (tx_n f e (tx_n f e b))))) 5 ((N 5) + 1)) = (nup (nup (nup (nup N 5 (N 5 + 1)) (71 + ((N 5) * 3 + 0)) (tx_v f e 4 (tx_n f e b))) (71 + ((N 5) * 3 + 1)) (tx_v f e 4 (tx_n f e (tx_n f e b)))) (71 + ((N 5) * 3 + 2)) (tx_v f e 4 (tx_n f e (tx_n f e (tx_n f e b))))) := by
            funext i
            by_cases h9 : i = 5
            · subst h9
              rw [nup_at, nup_ne (by omega), nup_ne (by omega), nup_ne (by omega), nup_at]
            · rw [nup_ne h9]
              unfold nup
              try dsimp only
              rw [if_neg h9]
          have ev : v_flood f e N b = (true, (tx_n f e (tx_n f e (tx_n f e (tx_n f e b)))), (nup (nup (nup (nup N 5 (N 5 + 1)) (71 + ((N 5) * 3 + 0)) (tx_v f e 4 (tx_n f e b))) (71 + ((N 5) * 3 + 1)) (tx_v f e 4 (tx_n f e (tx_n f e b)))) (71 + ((N 5) * 3 + 2)) (tx_v f e 4 (tx_n f e (tx_n f e (tx_n f e b)))))) := by
            unfold v_flood
            rw [tif_f h20, tif_t h33, tif_t h46, tif_t h62]
            first | done | rfl
          rw [ev] at q1
          exact gm_r_int (pc := 111) (by decide +kernel) (Or.inr ⟨(by decide +kernel), Or.inr rfl⟩) (q1 (tx_s f e (tx_n f e (tx_n f e (tx_n f e b)))) _ (fr_p (fr_p (fr_p (fr_p (fr_t (fr_t (fr_t fr_0 hf33 (by decide)) hf46 (by decide)) hf62 (by decide)) (Or.inl (by decide))) (Or.inl (by decide))) (Or.inl (by decide))) (Or.inl (by decide))) (rw_fr (W := [((227 : Nat), none), ((227 : Nat), some (5 : Int))]) hr62 (fr_p (fr_p (fr_p (fr_p fr_0 (Or.inl (by decide))) (Or.inl (by decide))) (Or.inl (by decide))) (Or.inl (by decide))) (by decide)) hp62 rfl (tr_ws (W := [((226 : Nat), some (9 : Int)), ((226 : Nat), some (11 : Int)), ((227 : Nat), none)]) hT (((ws_um (((ws_um (((ws_um (((ws_um (((ws_uf hf62 (by decide)).trans (((ws_uf hf46 (by decide)).trans (((ws_uf hf33 (by decide)).trans (hT.1))))))) ⟨by omega, by omega, by omega⟩).trans (congrArg (fun z9 => nup N z9 (tx_v f e 4 (tx_n f e b))) (show 71 + (3 * (N 5)) = (71 + ((N 5) * 3 + 0)) by omega)))) ⟨by omega, by omega, by omega⟩).trans (congrArg (fun z9 => nup (nup N (71 + ((N 5) * 3 + 0)) (tx_v f e 4 (tx_n f e b))) z9 (tx_v f e 4 (tx_n f e (tx_n f e b)))) (show (71 + (3 * (N 5))) + 1 = (71 + ((N 5) * 3 + 1)) by omega)))) ⟨by omega, by omega, by omega⟩).trans (congrArg (fun z9 => nup (nup (nup N (71 + ((N 5) * 3 + 0)) (tx_v f e 4 (tx_n f e b))) (71 + ((N 5) * 3 + 1)) (tx_v f e 4 (tx_n f e (tx_n f e b)))) z9 (tx_v f e 4 (tx_n f e (tx_n f e (tx_n f e b))))) (show (71 + (3 * (N 5))) + 2 = (71 + ((N 5) * 3 + 2)) by omega)))) ⟨by omega, by omega, by omega⟩)).trans ew) (fr_p (fr_p (fr_p (fr_p (fr_t (fr_t (fr_t fr_0 hf33 (by decide)) hf46 (by decide)) hf62 (by decide)) (Or.inl (by decide))) (Or.inl (by decide))) (Or.inl (by decide))) (Or.inl (by decide))) (by decide)) ⟨fun j hj => ((uM_ne (by omega)).trans ((uM_ne (by omega)).trans ((uM_ne (by omega)).trans ((uM_ne (by omega)).trans ((fr_c hf62 (by decide)).trans ((fr_c hf46 (by decide)).trans (fr_c hf33 (by decide)))))))), ((uM_ne (by omega)).trans ((uM_ne (by omega)).trans ((uM_ne (by omega)).trans ((uM_ne (by omega)).trans ((fr_c hf62 (by decide)).trans ((fr_c hf46 (by decide)).trans (fr_c hf33 (by decide))))))))⟩ rfl)
        · show gm_Wp X LX d _ _ 265 65 _ [gm_vi (-1)] n K _ _ Q
          have h62 : ¬ vn f e 1 20 (tx_n f e (tx_n f e (tx_n f e b))) := h62
          refine gm_sz (gm_p_stor (pc := 65) (i := .istore 4) (sr := 0) (j := 4) (by decide +kernel) rfl (show 5 ≤ _ from Nat.le_of_ble_eq_true rfl) rfl) ?_
          refine gm_sz (gm_p_load (pc := 67) (i := .iload 4) (sr := 0) (j := 4) (by decide +kernel) rfl rfl rfl) ?_
          refine fw_iffd (cc := .ge) (pc := 69) (off := 5) (by decide +kernel) (by decide) ⟨by decide, by decide⟩ (by decide) ?_
          refine gm_sz (gm_p_const (pc := 72) (i := .iconst 0) (v := gm_vi 0) (by decide +kernel) (by decide +kernel)) ?_
          have ev : v_flood f e N b = (false, (tx_n f e (tx_n f e (tx_n f e b))), N) := by
            unfold v_flood
            rw [tif_f h20, tif_t h33, tif_t h46, tif_f h62]
            first | done | rfl
          rw [ev] at q0
          exact gm_r_int (pc := 73) (by decide +kernel) (Or.inr ⟨(by decide +kernel), Or.inl rfl⟩) (q0 _ (fr_t (fr_t (fr_t fr_0 hf33 (by decide)) hf46 (by decide)) hf62 (by decide)) h11_62 (fun h => by cases h))
      · show gm_Wp X LX d _ _ 265 49 _ [gm_vi (-1)] n K _ _ Q
        have h46 : ¬ vn f e 0 (N 1 - 1) (tx_n f e (tx_n f e b)) := h46
        refine gm_sz (gm_p_stor (pc := 49) (i := .istore_n 3) (sr := 0) (j := 3) (by decide +kernel) rfl (show 4 ≤ _ from Nat.le_of_ble_eq_true rfl) rfl) ?_
        refine gm_sz (gm_p_load (pc := 50) (i := .iload_n 3) (sr := 0) (j := 3) (by decide +kernel) rfl rfl rfl) ?_
        refine fw_iffd (cc := .ge) (pc := 51) (off := 7) (by decide +kernel) (by decide) ⟨by decide, by decide⟩ (by decide) ?_
        refine gm_sz (gm_p_const (pc := 54) (i := .iconst (-1)) (v := gm_vi (-1)) (by decide +kernel) (by decide +kernel)) ?_
        refine gm_sz (gm_p_goto (pc := 55) (off := 10) (by decide +kernel) (by decide)) ?_
        refine gm_sz (gm_p_stor (pc := 65) (i := .istore 4) (sr := 0) (j := 4) (by decide +kernel) rfl (show 5 ≤ _ from Nat.le_of_ble_eq_true rfl) rfl) ?_
        refine gm_sz (gm_p_load (pc := 67) (i := .iload 4) (sr := 0) (j := 4) (by decide +kernel) rfl rfl rfl) ?_
        refine fw_iffd (cc := .ge) (pc := 69) (off := 5) (by decide +kernel) (by decide) ⟨by decide, by decide⟩ (by decide) ?_
        refine gm_sz (gm_p_const (pc := 72) (i := .iconst 0) (v := gm_vi 0) (by decide +kernel) (by decide +kernel)) ?_
        have ev : v_flood f e N b = (false, (tx_n f e (tx_n f e b)), N) := by
          unfold v_flood
          rw [tif_f h20, tif_t h33, tif_f h46]
          first | done | rfl
        rw [ev] at q0
        exact gm_r_int (pc := 73) (by decide +kernel) (Or.inr ⟨(by decide +kernel), Or.inl rfl⟩) (q0 _ (fr_t (fr_t fr_0 hf33 (by decide)) hf46 (by decide)) h11_46 (fun h => by cases h))
    · show gm_Wp X LX d _ _ 265 36 _ [gm_vi (-1)] n K _ _ Q
      have h33 : ¬ vn f e (N 9) 299 (tx_n f e b) := h33
      refine gm_sz (gm_p_stor (pc := 36) (i := .istore_n 2) (sr := 0) (j := 2) (by decide +kernel) rfl (show 3 ≤ _ from Nat.le_of_ble_eq_true rfl) rfl) ?_
      refine gm_sz (gm_p_load (pc := 37) (i := .iload_n 2) (sr := 0) (j := 2) (by decide +kernel) rfl rfl rfl) ?_
      refine fw_iffd (cc := .ge) (pc := 38) (off := 7) (by decide +kernel) (by decide) ⟨by decide, by decide⟩ (by decide) ?_
      refine gm_sz (gm_p_const (pc := 41) (i := .iconst (-1)) (v := gm_vi (-1)) (by decide +kernel) (by decide +kernel)) ?_
      refine gm_sz (gm_p_goto (pc := 42) (off := 7) (by decide +kernel) (by decide)) ?_
      refine gm_sz (gm_p_stor (pc := 49) (i := .istore_n 3) (sr := 0) (j := 3) (by decide +kernel) rfl (show 4 ≤ _ from Nat.le_of_ble_eq_true rfl) rfl) ?_
      refine gm_sz (gm_p_load (pc := 50) (i := .iload_n 3) (sr := 0) (j := 3) (by decide +kernel) rfl rfl rfl) ?_
      refine fw_iffd (cc := .ge) (pc := 51) (off := 7) (by decide +kernel) (by decide) ⟨by decide, by decide⟩ (by decide) ?_
      refine gm_sz (gm_p_const (pc := 54) (i := .iconst (-1)) (v := gm_vi (-1)) (by decide +kernel) (by decide +kernel)) ?_
      refine gm_sz (gm_p_goto (pc := 55) (off := 10) (by decide +kernel) (by decide)) ?_
      refine gm_sz (gm_p_stor (pc := 65) (i := .istore 4) (sr := 0) (j := 4) (by decide +kernel) rfl (show 5 ≤ _ from Nat.le_of_ble_eq_true rfl) rfl) ?_
      refine gm_sz (gm_p_load (pc := 67) (i := .iload 4) (sr := 0) (j := 4) (by decide +kernel) rfl rfl rfl) ?_
      refine fw_iffd (cc := .ge) (pc := 69) (off := 5) (by decide +kernel) (by decide) ⟨by decide, by decide⟩ (by decide) ?_
      refine gm_sz (gm_p_const (pc := 72) (i := .iconst 0) (v := gm_vi 0) (by decide +kernel) (by decide +kernel)) ?_
      have ev : v_flood f e N b = (false, (tx_n f e b), N) := by
        unfold v_flood
        rw [tif_f h20, tif_f h33]
        first | done | rfl
      rw [ev] at q0
      exact gm_r_int (pc := 73) (by decide +kernel) (Or.inr ⟨(by decide +kernel), Or.inl rfl⟩) (q0 _ (fr_t fr_0 hf33 (by decide)) h11_33 (fun h => by cases h))
  · have h20 : (N 5) = 8 := Classical.not_not.mp h20
    refine gm_sz (gm_p_const (pc := 23) (i := .iconst 0) (v := gm_vi 0) (by decide +kernel) (by decide +kernel)) ?_
    have ev : v_flood f e N b = (false, b, N) := by
      unfold v_flood
      rw [tif_t h20]
      first | done | rfl
    rw [ev] at q0
    exact gm_r_int (pc := 24) (by decide +kernel) (Or.inr ⟨(by decide +kernel), Or.inl rfl⟩) (q0 _ fr_0 hbg (fun h => by cases h))
theorem rv_267 (hd : 8 ≤ d) (hE : E0 n K R) (hF : VF f e) (hR : RW f e (tx_s f e b) M) (hbg : M 226 11 = b) (hb : 0 ≤ b ∧ b ≤ e) (hT : TR N h M) (hN : NR N) (q1 : ∀ (p2 : Int) M2, fr [((226 : Nat), some (9 : Int)), ((226 : Nat), some (11 : Int)), ((227 : Nat), none)] M M2 → RW f e p2 M2 → 0 ≤ p2 ∧ p2 ≤ e → tx_g f e p2 = (v_person f e N b).2.1 → TR (v_person f e N b).2.2 h M2 → BW M M2 → (v_person f e N b).1 = true → Q (.inl (some (gm_vi 1))) n K R M2) (q0 : ∀ M2, fr [((226 : Nat), some (9 : Int)), ((226 : Nat), some (11 : Int)), ((227 : Nat), none)] M M2 → M2 226 11 = (v_person f e N b).2.1 → ¬ (v_person f e N b).1 = true → Q (.inl (some (gm_vi 0))) n K R M2) : gm_Wp X LX d bc bs 267 0 (gm_ent 267 [gm_vr 226]) [] n K R M Q := by
  obtain ⟨⟨⟨a0, b0⟩, ⟨a1, b1⟩, ⟨a10, b10⟩, ⟨a11, b11⟩, ⟨a12, b12⟩, a9, b9⟩, ⟨⟨a2, b2⟩, ⟨a5, b5⟩, ⟨a3, b3⟩, ⟨a4, b4⟩, ⟨a6, b6⟩, ⟨a14, b14⟩, ⟨a7, b7⟩, a13, b13⟩, rF, rP, rL⟩ := id hN
  have sb9 := tx_sb (f := f) (e := e) (b := b) hb.2
  have nb9 := tx_nb (f := f) (e := e) (b := b) hb.2
  have hp9 : 0 ≤ tx_s f e b ∧ tx_s f e b ≤ e := ⟨by have := hb.1; omega, sb9.2.1⟩
  have hb9 : 0 ≤ tx_n f e b ∧ tx_n f e b ≤ e := ⟨by have := hb.1; omega, nb9.2.1⟩
  refine gm_sz (gm_p_const (pc := 0) (i := .bipush 95) (v := gm_vi 95) (by decide +kernel) (by decide +kernel)) ?_
  refine gm_sz (gm_p_const (pc := 2) (i := .iconst 3) (v := gm_vi 3) (by decide +kernel) (by decide +kernel)) ?_
  refine gm_sz (gm_p_load (pc := 3) (i := .aload_n 0) (sr := 2) (j := 0) (by decide +kernel) rfl rfl rfl) ?_
  refine gm_c_virt (k := 226) (ci := 11) (mj := 253) (ix := 97) (pc := 4) (as := []) (st := [gm_vi 3, gm_vi 95]) (d' := d - 1) (bc' := 0) (bs' := 0) (by decide +kernel) (by decide +kernel) (by decide +kernel) (by decide +kernel) (e0k hE (k := 226) (c := 11) (by decide +kernel)).1 (e0k hE (k := 226) (c := 11) (by decide +kernel)).2 (by decide) (by decide +kernel) (show 0 = gm_na 253 by decide +kernel) fw_c0 (show 1 ≤ gm_ml 253 by decide +kernel) (Nat.le_of_ble_eq_true rfl) (by omega) (Nat.zero_le _) (Nat.zero_le _) ?_
  refine re_peo hE hT hN ?_
  show gm_Wp X LX d _ _ 267 7 _ [gm_vi (N 3), gm_vi 3, gm_vi 95] n K _ _ Q
  refine gm_sz (gm_p_bin (pc := 7) (i := .imul) (f := fun x y => x * y) (by decide +kernel) rfl) ?_
  refine gm_sz (gm_p_bin (pc := 8) (i := .iadd) (f := fun x y => x + y) (by decide +kernel) rfl) ?_
  refine gm_sz (gm_p_stor (pc := 9) (i := .istore_n 1) (sr := 0) (j := 1) (by decide +kernel) rfl (show 2 ≤ _ from Nat.le_of_ble_eq_true rfl) rfl) ?_
  refine gm_sz (gm_p_load (pc := 10) (i := .aload_n 0) (sr := 2) (j := 0) (by decide +kernel) rfl rfl rfl) ?_
  refine gm_c_virt (k := 226) (ci := 11) (mj := 253) (ix := 97) (pc := 11) (as := []) (st := []) (d' := d - 1) (bc' := 0) (bs' := 0) (by decide +kernel) (by decide +kernel) (by decide +kernel) (by decide +kernel) (e0k hE (k := 226) (c := 11) (by decide +kernel)).1 (e0k hE (k := 226) (c := 11) (by decide +kernel)).2 (by decide) (by decide +kernel) (show 0 = gm_na 253 by decide +kernel) fw_c0 (show 1 ≤ gm_ml 253 by decide +kernel) (Nat.le_of_ble_eq_true rfl) (by omega) (Nat.zero_le _) (Nat.zero_le _) ?_
  refine re_peo hE hT hN ?_
  show gm_Wp X LX d _ _ 267 14 _ [gm_vi (N 3)] n K _ _ Q
  refine gm_sz (gm_p_const (pc := 14) (i := .bipush 8) (v := gm_vi 8) (by decide +kernel) (by decide +kernel)) ?_
  refine fw_ic (cc := .ne) (pc := 16) (off := 5) (by decide +kernel) (by decide) ⟨by omega, by omega⟩ ⟨by decide, by decide⟩ (fun h16 => ?_) (fun h16 => ?_)
  · have h16 : ¬ (N 3) = 8 := h16
    refine gm_sz (gm_p_load (pc := 21) (i := .aload_n 0) (sr := 2) (j := 0) (by decide +kernel) rfl rfl rfl) ?_
    refine gm_c_virt (k := 226) (ci := 11) (mj := 268) (ix := 165) (pc := 22) (as := []) (st := []) (d' := d - 1) (bc' := 0) (bs' := 0) (by decide +kernel) (by decide +kernel) (by decide +kernel) (by decide +kernel) (e0k hE (k := 226) (c := 11) (by decide +kernel)).1 (e0k hE (k := 226) (c := 11) (by decide +kernel)).2 (by decide) (by decide +kernel) (show 0 = gm_na 268 by decide +kernel) fw_c0 (show 1 ≤ gm_ml 268 by decide +kernel) (Nat.le_of_ble_eq_true rfl) (by omega) (Nat.zero_le _) (Nat.zero_le _) ?_
    refine rv_268 (by omega) hE hF hR hp9 rfl hb9 hT hN (fun h22 M22 hf22 hr22 => ?_) (fun h22 M22 hf22 h11_22 => ?_)
    · show gm_Wp X LX d _ _ 267 25 _ [gm_vi (tx_v f e 4 (tx_n f e b))] n K _ _ Q
      have h22 : vn f e 0 (N 0 - 1) (tx_n f e b) := h22
      have hv22 : 0 ≤ tx_v f e 4 (tx_n f e b) ∧ tx_v f e 4 (tx_n f e b) ≤ N 0 - 1 := h22.2
      have sb22 := tx_sb (f := f) (e := e) (b := (tx_n f e b)) hb9.2
      have hb22 := tx_nb (f := f) (e := e) (b := (tx_n f e b)) hb9.2
      have hp22 : 0 ≤ tx_s f e (tx_n f e b) ∧ tx_s f e (tx_n f e b) ≤ e := ⟨by have := hb9.1; omega, sb22.2.1⟩
      have hb22 : 0 ≤ tx_n f e (tx_n f e b) ∧ tx_n f e (tx_n f e b) ≤ e := ⟨by have := hb9.1; omega, hb22.2.1⟩
      refine gm_sz (gm_p_stor (pc := 25) (i := .istore_n 2) (sr := 0) (j := 2) (by decide +kernel) rfl (show 3 ≤ _ from Nat.le_of_ble_eq_true rfl) rfl) ?_
      refine gm_sz (gm_p_load (pc := 26) (i := .iload_n 2) (sr := 0) (j := 2) (by decide +kernel) rfl rfl rfl) ?_
      refine fw_ift (cc := .ge) (pc := 27) (off := 7) (by decide +kernel) (by decide) ⟨by omega, by omega⟩ (show 0 ≤ (tx_v f e 4 (tx_n f e b)) by omega) ?_
      refine gm_sz (gm_p_load (pc := 34) (i := .aload_n 0) (sr := 2) (j := 0) (by decide +kernel) rfl rfl rfl) ?_
      refine gm_c_virt (k := 226) (ci := 11) (mj := 263) (ix := 153) (pc := 35) (as := []) (st := []) (d' := d - 1) (bc' := 0) (bs' := 0) (by decide +kernel) (by decide +kernel) (by decide +kernel) (by decide +kernel) (e0k hE (k := 226) (c := 11) (by decide +kernel)).1 (e0k hE (k := 226) (c := 11) (by decide +kernel)).2 (by decide) (by decide +kernel) (show 0 = gm_na 263 by decide +kernel) fw_c0 (show 1 ≤ gm_ml 263 by decide +kernel) (Nat.le_of_ble_eq_true rfl) (by omega) (Nat.zero_le _) (Nat.zero_le _) ?_
      refine rv_263 (by omega) hE hF hr22 hp22 rfl hb22 (tr_fr (W := [((226 : Nat), some (9 : Int)), ((226 : Nat), some (11 : Int))]) hT (fr_t fr_0 hf22 (by decide)) (by decide)) hN (fun h35 M35 hf35 hr35 => ?_) (fun h35 M35 hf35 h11_35 => ?_)
      · show gm_Wp X LX d _ _ 267 38 _ [gm_vi (tx_v f e 4 (tx_n f e (tx_n f e b)))] n K _ _ Q
        have h35 : vn f e 0 (N 1 - 1) (tx_n f e (tx_n f e b)) := h35
        have hv35 : 0 ≤ tx_v f e 4 (tx_n f e (tx_n f e b)) ∧ tx_v f e 4 (tx_n f e (tx_n f e b)) ≤ N 1 - 1 := h35.2
        have sb35 := tx_sb (f := f) (e := e) (b := (tx_n f e (tx_n f e b))) hb22.2
        have hb35 := tx_nb (f := f) (e := e) (b := (tx_n f e (tx_n f e b))) hb22.2
        have hp35 : 0 ≤ tx_s f e (tx_n f e (tx_n f e b)) ∧ tx_s f e (tx_n f e (tx_n f e b)) ≤ e := ⟨by have := hb22.1; omega, sb35.2.1⟩
        have hb35 : 0 ≤ tx_n f e (tx_n f e (tx_n f e b)) ∧ tx_n f e (tx_n f e (tx_n f e b)) ≤ e := ⟨by have := hb22.1; omega, hb35.2.1⟩
        refine gm_sz (gm_p_stor (pc := 38) (i := .istore_n 3) (sr := 0) (j := 3) (by decide +kernel) rfl (show 4 ≤ _ from Nat.le_of_ble_eq_true rfl) rfl) ?_
        refine gm_sz (gm_p_load (pc := 39) (i := .iload_n 3) (sr := 0) (j := 3) (by decide +kernel) rfl rfl rfl) ?_
        refine fw_ift (cc := .ge) (pc := 40) (off := 5) (by decide +kernel) (by decide) ⟨by omega, by omega⟩ (show 0 ≤ (tx_v f e 4 (tx_n f e (tx_n f e b))) by omega) ?_
        refine gm_sz (gm_p_const (pc := 45) (i := .iconst (-1)) (v := gm_vi (-1)) (by decide +kernel) (by decide +kernel)) ?_
        refine gm_sz (gm_p_stor (pc := 46) (i := .istore 4) (sr := 0) (j := 4) (by decide +kernel) rfl (show 5 ≤ _ from Nat.le_of_ble_eq_true rfl) rfl) ?_
        refine gm_sz (gm_p_load (pc := 48) (i := .aload_n 0) (sr := 2) (j := 0) (by decide +kernel) rfl rfl rfl) ?_
        refine gm_sz (gm_p_ldcs (pc := 49) (i := .ldc 168) (ix := 168) (id := 54) (by decide +kernel) (Or.inl rfl) (by decide +kernel)) ?_
        refine gm_c_virt (k := 226) (ci := 11) (mj := 269) (ix := 170) (pc := 51) (as := [gm_vo 54]) (st := []) (d' := d - 1) (bc' := 0) (bs' := 0) (by decide +kernel) (by decide +kernel) (by decide +kernel) (by decide +kernel) (e0k hE (k := 226) (c := 11) (by decide +kernel)).1 (e0k hE (k := 226) (c := 11) (by decide +kernel)).2 (by decide) (by decide +kernel) (show 1 = gm_na 269 by decide +kernel) (fw_c1 fw_so) (show 2 ≤ gm_ml 269 by decide +kernel) (Nat.le_of_ble_eq_true rfl) (by omega) (Nat.zero_le _) (Nat.zero_le _) ?_
        refine rv_269 (by omega) hE hF hr35 hp35 rfl (by decide) (show tx_o 54 = wv_watch by decide +kernel) (by decide) (fun h51 M51 hf51 hr51 => ?_) (fun h51 M51 hf51 hr51 => ?_)
        · show gm_Wp X LX d _ _ 267 54 _ [gm_vi 1] n K _ _ Q
          have h51 : tx_is f e (tx_n f e (tx_n f e (tx_n f e b))) wv_watch := h51
          have sb51 := tx_sb (f := f) (e := e) (b := (tx_n f e (tx_n f e (tx_n f e b)))) hb35.2
          have hb51 := tx_nb (f := f) (e := e) (b := (tx_n f e (tx_n f e (tx_n f e b)))) hb35.2
          have hp51 : 0 ≤ tx_s f e (tx_n f e (tx_n f e (tx_n f e b))) ∧ tx_s f e (tx_n f e (tx_n f e (tx_n f e b))) ≤ e := ⟨by have := hb35.1; omega, sb51.2.1⟩
          have hb51 : 0 ≤ tx_n f e (tx_n f e (tx_n f e (tx_n f e b))) ∧ tx_n f e (tx_n f e (tx_n f e (tx_n f e b))) ≤ e := ⟨by have := hb35.1; omega, hb51.2.1⟩
          refine fw_iffd (cc := .eq) (pc := 54) (off := 16) (by decide +kernel) (by decide) ⟨by decide, by decide⟩ (by decide) ?_
          refine gm_sz (gm_p_load (pc := 57) (i := .aload_n 0) (sr := 2) (j := 0) (by decide +kernel) rfl rfl rfl) ?_
          refine gm_c_virt (k := 226) (ci := 11) (mj := 268) (ix := 165) (pc := 58) (as := []) (st := []) (d' := d - 1) (bc' := 0) (bs' := 0) (by decide +kernel) (by decide +kernel) (by decide +kernel) (by decide +kernel) (e0k hE (k := 226) (c := 11) (by decide +kernel)).1 (e0k hE (k := 226) (c := 11) (by decide +kernel)).2 (by decide) (by decide +kernel) (show 0 = gm_na 268 by decide +kernel) fw_c0 (show 1 ≤ gm_ml 268 by decide +kernel) (Nat.le_of_ble_eq_true rfl) (by omega) (Nat.zero_le _) (Nat.zero_le _) ?_
          refine rv_268 (by omega) hE hF hr51 hp51 rfl hb51 (tr_fr (W := [((226 : Nat), some (9 : Int)), ((226 : Nat), some (11 : Int))]) hT (fr_t (fr_t (fr_t fr_0 hf22 (by decide)) hf35 (by decide)) hf51 (by decide)) (by decide)) hN (fun h58 M58 hf58 hr58 => ?_) (fun h58 M58 hf58 h11_58 => ?_)
          · show gm_Wp X LX d _ _ 267 61 _ [gm_vi (tx_v f e 4 (tx_n f e (tx_n f e (tx_n f e (tx_n f e b)))))] n K _ _ Q
            have h58 : vn f e 0 (N 0 - 1) (tx_n f e (tx_n f e (tx_n f e (tx_n f e b)))) := h58
            have hv58 : 0 ≤ tx_v f e 4 (tx_n f e (tx_n f e (tx_n f e (tx_n f e b)))) ∧ tx_v f e 4 (tx_n f e (tx_n f e (tx_n f e (tx_n f e b)))) ≤ N 0 - 1 := h58.2
            have sb58 := tx_sb (f := f) (e := e) (b := (tx_n f e (tx_n f e (tx_n f e (tx_n f e b))))) hb51.2
            have hb58 := tx_nb (f := f) (e := e) (b := (tx_n f e (tx_n f e (tx_n f e (tx_n f e b))))) hb51.2
            have hp58 : 0 ≤ tx_s f e (tx_n f e (tx_n f e (tx_n f e (tx_n f e b)))) ∧ tx_s f e (tx_n f e (tx_n f e (tx_n f e (tx_n f e b)))) ≤ e := ⟨by have := hb51.1; omega, sb58.2.1⟩
            have hb58 : 0 ≤ tx_n f e (tx_n f e (tx_n f e (tx_n f e (tx_n f e b)))) ∧ tx_n f e (tx_n f e (tx_n f e (tx_n f e (tx_n f e b)))) ≤ e := ⟨by have := hb51.1; omega, hb58.2.1⟩
            refine gm_sz (gm_p_stor (pc := 61) (i := .istore 4) (sr := 0) (j := 4) (by decide +kernel) rfl (show 5 ≤ _ from Nat.le_of_ble_eq_true rfl) rfl) ?_
            refine gm_sz (gm_p_load (pc := 63) (i := .iload 4) (sr := 0) (j := 4) (by decide +kernel) rfl rfl rfl) ?_
            refine fw_ift (cc := .ge) (pc := 65) (off := 5) (by decide +kernel) (by decide) ⟨by omega, by omega⟩ (show 0 ≤ (tx_v f e 4 (tx_n f e (tx_n f e (tx_n f e (tx_n f e b))))) by omega) ?_
            refine gm_sz (gm_p_load (pc := 70) (i := .aload_n 0) (sr := 2) (j := 0) (by decide +kernel) rfl rfl rfl) ?_
            refine gm_sz (fw_gr (pc := 71) (ix := 13) (ci := 11) (j := 1) (r := 227) (by decide +kernel) (e0k hE (k := 226) (c := 11) (by decide +kernel)) (by decide +kernel) (by decide +kernel) (e0r hE (k := 226) (j := 1) (r := 227) (by decide +kernel))) ?_
            refine gm_sz (gm_p_load (pc := 74) (i := .iload_n 1) (sr := 0) (j := 1) (by decide +kernel) rfl rfl rfl) ?_
            refine gm_sz (gm_p_load (pc := 75) (i := .iload_n 2) (sr := 0) (j := 2) (by decide +kernel) rfl rfl rfl) ?_
            refine gm_sz (fw_is (pc := 76) (k := 227) (len := 2093) (e0 := 95 + (3 * (N 3))) (x := (tx_v f e 4 (tx_n f e b))) (M' := gm_uM M58 227 (95 + (3 * (N 3))) (tx_v f e 4 (tx_n f e b))) (by decide +kernel) (e0a hE (k := 227) (q := ((0 : Nat), (2093 : Nat))) (by decide +kernel)).1 (e0a hE (k := 227) (q := ((0 : Nat), (2093 : Nat))) (by decide +kernel)).2 (by decide) ⟨by omega, by omega⟩ rfl) ?_
            refine gm_sz (gm_p_load (pc := 77) (i := .aload_n 0) (sr := 2) (j := 0) (by decide +kernel) rfl rfl rfl) ?_
            refine gm_sz (fw_gr (pc := 78) (ix := 13) (ci := 11) (j := 1) (r := 227) (by decide +kernel) (e0k hE (k := 226) (c := 11) (by decide +kernel)) (by decide +kernel) (by decide +kernel) (e0r hE (k := 226) (j := 1) (r := 227) (by decide +kernel))) ?_
            refine gm_sz (gm_p_load (pc := 81) (i := .iload_n 1) (sr := 0) (j := 1) (by decide +kernel) rfl rfl rfl) ?_
            refine gm_sz (gm_p_const (pc := 82) (i := .iconst 1) (v := gm_vi 1) (by decide +kernel) (by decide +kernel)) ?_
            refine gm_sz (gm_p_bin (pc := 83) (i := .iadd) (f := fun x y => x + y) (by decide +kernel) rfl) ?_
            refine gm_sz (gm_p_load (pc := 84) (i := .iload_n 3) (sr := 0) (j := 3) (by decide +kernel) rfl rfl rfl) ?_
            refine gm_sz (fw_is (pc := 85) (k := 227) (len := 2093) (e0 := (95 + (3 * (N 3))) + 1) (x := (tx_v f e 4 (tx_n f e (tx_n f e b)))) (M' := gm_uM (gm_uM M58 227 (95 + (3 * (N 3))) (tx_v f e 4 (tx_n f e b))) 227 ((95 + (3 * (N 3))) + 1) (tx_v f e 4 (tx_n f e (tx_n f e b)))) (by decide +kernel) (e0a hE (k := 227) (q := ((0 : Nat), (2093 : Nat))) (by decide +kernel)).1 (e0a hE (k := 227) (q := ((0 : Nat), (2093 : Nat))) (by decide +kernel)).2 (by decide) ⟨by omega, by omega⟩ rfl) ?_
            refine gm_sz (gm_p_load (pc := 86) (i := .aload_n 0) (sr := 2) (j := 0) (by decide +kernel) rfl rfl rfl) ?_
            refine gm_sz (fw_gr (pc := 87) (ix := 13) (ci := 11) (j := 1) (r := 227) (by decide +kernel) (e0k hE (k := 226) (c := 11) (by decide +kernel)) (by decide +kernel) (by decide +kernel) (e0r hE (k := 226) (j := 1) (r := 227) (by decide +kernel))) ?_
            refine gm_sz (gm_p_load (pc := 90) (i := .iload_n 1) (sr := 0) (j := 1) (by decide +kernel) rfl rfl rfl) ?_
            refine gm_sz (gm_p_const (pc := 91) (i := .iconst 2) (v := gm_vi 2) (by decide +kernel) (by decide +kernel)) ?_
            refine gm_sz (gm_p_bin (pc := 92) (i := .iadd) (f := fun x y => x + y) (by decide +kernel) rfl) ?_
            refine gm_sz (gm_p_load (pc := 93) (i := .iload 4) (sr := 0) (j := 4) (by decide +kernel) rfl rfl rfl) ?_
            refine gm_sz (fw_is (pc := 95) (k := 227) (len := 2093) (e0 := (95 + (3 * (N 3))) + 2) (x := (tx_v f e 4 (tx_n f e (tx_n f e (tx_n f e (tx_n f e b)))))) (M' := gm_uM (gm_uM (gm_uM M58 227 (95 + (3 * (N 3))) (tx_v f e 4 (tx_n f e b))) 227 ((95 + (3 * (N 3))) + 1) (tx_v f e 4 (tx_n f e (tx_n f e b)))) 227 ((95 + (3 * (N 3))) + 2) (tx_v f e 4 (tx_n f e (tx_n f e (tx_n f e (tx_n f e b)))))) (by decide +kernel) (e0a hE (k := 227) (q := ((0 : Nat), (2093 : Nat))) (by decide +kernel)).1 (e0a hE (k := 227) (q := ((0 : Nat), (2093 : Nat))) (by decide +kernel)).2 (by decide) ⟨by omega, by omega⟩ rfl) ?_
            refine gm_sz (gm_p_load (pc := 96) (i := .aload_n 0) (sr := 2) (j := 0) (by decide +kernel) rfl rfl rfl) ?_
            refine gm_sz (fw_gr (pc := 97) (ix := 13) (ci := 11) (j := 1) (r := 227) (by decide +kernel) (e0k hE (k := 226) (c := 11) (by decide +kernel)) (by decide +kernel) (by decide +kernel) (e0r hE (k := 226) (j := 1) (r := 227) (by decide +kernel))) ?_
            refine gm_sz (gm_p_const (pc := 100) (i := .iconst 3) (v := gm_vi 3) (by decide +kernel) (by decide +kernel)) ?_
            refine gm_sz (gm_p_dup2 (pc := 101) (by decide +kernel) fw_si fw_sr) ?_
            refine gm_sz (fw_ia (pc := 102) (k := 227) (len := 2093) (e0 := 3) (x := N 3) (by decide +kernel) (e0a hE (k := 227) (q := ((0 : Nat), (2093 : Nat))) (by decide +kernel)).1 (e0a hE (k := 227) (q := ((0 : Nat), (2093 : Nat))) (by decide +kernel)).2 (by decide) ⟨by omega, by omega⟩ ((uM_ne (by omega)).trans ((uM_ne (by omega)).trans ((uM_ne (by omega)).trans ((fr_c hf58 (by decide)).trans ((fr_c hf51 (by decide)).trans ((fr_c hf35 (by decide)).trans ((fr_c hf22 (by decide)).trans (tr_w hT (by decide) (by decide) (by decide)))))))))) ?_
            refine gm_sz (gm_p_const (pc := 103) (i := .iconst 1) (v := gm_vi 1) (by decide +kernel) (by decide +kernel)) ?_
            refine gm_sz (gm_p_bin (pc := 104) (i := .iadd) (f := fun x y => x + y) (by decide +kernel) rfl) ?_
            refine gm_sz (fw_is (pc := 105) (k := 227) (len := 2093) (e0 := 3) (x := (N 3) + 1) (M' := gm_uM (gm_uM (gm_uM (gm_uM M58 227 (95 + (3 * (N 3))) (tx_v f e 4 (tx_n f e b))) 227 ((95 + (3 * (N 3))) + 1) (tx_v f e 4 (tx_n f e (tx_n f e b)))) 227 ((95 + (3 * (N 3))) + 2) (tx_v f e 4 (tx_n f e (tx_n f e (tx_n f e (tx_n f e b)))))) 227 3 ((N 3) + 1)) (by decide +kernel) (e0a hE (k := 227) (q := ((0 : Nat), (2093 : Nat))) (by decide +kernel)).1 (e0a hE (k := 227) (q := ((0 : Nat), (2093 : Nat))) (by decide +kernel)).2 (by decide) ⟨by omega, by omega⟩ rfl) ?_
            refine gm_sz (gm_p_const (pc := 106) (i := .iconst 1) (v := gm_vi 1) (by decide +kernel) (by decide +kernel)) ?_
            have ew : (nup (nup (nup (nup N (95 + ((N 3) * 3 + 0)) (tx_v f e 4 (tx_n f e b))) (95 + ((N 3) * 3 + 1)) (tx_v f e 4 (tx_n f e (tx_n f e b)))) (95 + ((N 3) * 3 + 2)) (tx_v f e 4 (tx_n f e (tx_n f e (tx_n f e (tx_n f e b)))))) 3 ((N 3) + 1)) = (nup (nup (nup (nup N 3 (N 3 + 1)) (95 + ((N 3) * 3 + 0)) (tx_v f e 4 (tx_n f e b))) (95 + ((N 3) * 3 + 1)) (tx_v f e 4 (tx_n f e (tx_n f e b)))) (95 + ((N 3) * 3 + 2)) (tx_v f e 4 (tx_n f e (tx_n f e (tx_n f e (tx_n f e b)))))) := by
              funext i
              by_cases h9 : i = 3
              · subst h9
                rw [nup_at, nup_ne (by omega), nup_ne (by omega), nup_ne (by omega), nup_at]
              · rw [nup_ne h9]
                unfold nup
                try dsimp only
                rw [if_neg h9]
            have ev : v_person f e N b = (true, (tx_n f e (tx_n f e (tx_n f e (tx_n f e (tx_n f e b))))), (nup (nup (nup (nup N 3 (N 3 + 1)) (95 + ((N 3) * 3 + 0)) (tx_v f e 4 (tx_n f e b))) (95 + ((N 3) * 3 + 1)) (tx_v f e 4 (tx_n f e (tx_n f e b)))) (95 + ((N 3) * 3 + 2)) (tx_v f e 4 (tx_n f e (tx_n f e (tx_n f e (tx_n f e b))))))) := by
              unfold v_person
              rw [tif_f h16, tif_t h22, tif_t h35, tif_t h51, tif_t h58]
              first | done | rfl
            rw [ev] at q1
            exact gm_r_int (pc := 107) (by decide +kernel) (Or.inr ⟨(by decide +kernel), Or.inr rfl⟩) (q1 (tx_s f e (tx_n f e (tx_n f e (tx_n f e (tx_n f e b))))) _ (fr_p (fr_p (fr_p (fr_p (fr_t (fr_t (fr_t (fr_t fr_0 hf22 (by decide)) hf35 (by decide)) hf51 (by decide)) hf58 (by decide)) (Or.inl (by decide))) (Or.inl (by decide))) (Or.inl (by decide))) (Or.inl (by decide))) (rw_fr (W := [((227 : Nat), none), ((227 : Nat), some (3 : Int))]) hr58 (fr_p (fr_p (fr_p (fr_p fr_0 (Or.inl (by decide))) (Or.inl (by decide))) (Or.inl (by decide))) (Or.inl (by decide))) (by decide)) hp58 rfl (tr_ws (W := [((226 : Nat), some (9 : Int)), ((226 : Nat), some (11 : Int)), ((227 : Nat), none)]) hT (((ws_um (((ws_um (((ws_um (((ws_um (((ws_uf hf58 (by decide)).trans (((ws_uf hf51 (by decide)).trans (((ws_uf hf35 (by decide)).trans (((ws_uf hf22 (by decide)).trans (hT.1))))))))) ⟨by omega, by omega, by omega⟩).trans (congrArg (fun z9 => nup N z9 (tx_v f e 4 (tx_n f e b))) (show 95 + (3 * (N 3)) = (95 + ((N 3) * 3 + 0)) by omega)))) ⟨by omega, by omega, by omega⟩).trans (congrArg (fun z9 => nup (nup N (95 + ((N 3) * 3 + 0)) (tx_v f e 4 (tx_n f e b))) z9 (tx_v f e 4 (tx_n f e (tx_n f e b)))) (show (95 + (3 * (N 3))) + 1 = (95 + ((N 3) * 3 + 1)) by omega)))) ⟨by omega, by omega, by omega⟩).trans (congrArg (fun z9 => nup (nup (nup N (95 + ((N 3) * 3 + 0)) (tx_v f e 4 (tx_n f e b))) (95 + ((N 3) * 3 + 1)) (tx_v f e 4 (tx_n f e (tx_n f e b)))) z9 (tx_v f e 4 (tx_n f e (tx_n f e (tx_n f e (tx_n f e b)))))) (show (95 + (3 * (N 3))) + 2 = (95 + ((N 3) * 3 + 2)) by omega)))) ⟨by omega, by omega, by omega⟩)).trans ew) (fr_p (fr_p (fr_p (fr_p (fr_t (fr_t (fr_t (fr_t fr_0 hf22 (by decide)) hf35 (by decide)) hf51 (by decide)) hf58 (by decide)) (Or.inl (by decide))) (Or.inl (by decide))) (Or.inl (by decide))) (Or.inl (by decide))) (by decide)) ⟨fun j hj => ((uM_ne (by omega)).trans ((uM_ne (by omega)).trans ((uM_ne (by omega)).trans ((uM_ne (by omega)).trans ((fr_c hf58 (by decide)).trans ((fr_c hf51 (by decide)).trans ((fr_c hf35 (by decide)).trans (fr_c hf22 (by decide))))))))), ((uM_ne (by omega)).trans ((uM_ne (by omega)).trans ((uM_ne (by omega)).trans ((uM_ne (by omega)).trans ((fr_c hf58 (by decide)).trans ((fr_c hf51 (by decide)).trans ((fr_c hf35 (by decide)).trans (fr_c hf22 (by decide)))))))))⟩ rfl)
          · show gm_Wp X LX d _ _ 267 61 _ [gm_vi (-1)] n K _ _ Q
            have h58 : ¬ vn f e 0 (N 0 - 1) (tx_n f e (tx_n f e (tx_n f e (tx_n f e b)))) := h58
            refine gm_sz (gm_p_stor (pc := 61) (i := .istore 4) (sr := 0) (j := 4) (by decide +kernel) rfl (show 5 ≤ _ from Nat.le_of_ble_eq_true rfl) rfl) ?_
            refine gm_sz (gm_p_load (pc := 63) (i := .iload 4) (sr := 0) (j := 4) (by decide +kernel) rfl rfl rfl) ?_
            refine fw_iffd (cc := .ge) (pc := 65) (off := 5) (by decide +kernel) (by decide) ⟨by decide, by decide⟩ (by decide) ?_
            refine gm_sz (gm_p_const (pc := 68) (i := .iconst 0) (v := gm_vi 0) (by decide +kernel) (by decide +kernel)) ?_
            have ev : v_person f e N b = (false, (tx_n f e (tx_n f e (tx_n f e (tx_n f e b)))), N) := by
              unfold v_person
              rw [tif_f h16, tif_t h22, tif_t h35, tif_t h51, tif_f h58]
              first | done | rfl
            rw [ev] at q0
            exact gm_r_int (pc := 69) (by decide +kernel) (Or.inr ⟨(by decide +kernel), Or.inl rfl⟩) (q0 _ (fr_t (fr_t (fr_t (fr_t fr_0 hf22 (by decide)) hf35 (by decide)) hf51 (by decide)) hf58 (by decide)) h11_58 (fun h => by cases h))
        · show gm_Wp X LX d _ _ 267 54 _ [gm_vi 0] n K _ _ Q
          have h51 : ¬ tx_is f e (tx_n f e (tx_n f e (tx_n f e b))) wv_watch := h51
          have hg51 : tx_g f e (tx_n f e (tx_n f e (tx_n f e b))) = (tx_n f e (tx_n f e (tx_n f e b))) := by have z9 := tx_gi (f := f) (e := e) (p := (tx_s f e (tx_n f e (tx_n f e b)))) hp35.2; rwa [(rfl : tx_g f e (tx_s f e (tx_n f e (tx_n f e b))) = (tx_n f e (tx_n f e (tx_n f e b))))] at z9
          refine fw_iftd (cc := .eq) (pc := 54) (off := 16) (by decide +kernel) (by decide) ⟨by decide, by decide⟩ (by decide) ?_
          refine gm_sz (gm_p_load (pc := 70) (i := .aload_n 0) (sr := 2) (j := 0) (by decide +kernel) rfl rfl rfl) ?_
          refine gm_sz (fw_gr (pc := 71) (ix := 13) (ci := 11) (j := 1) (r := 227) (by decide +kernel) (e0k hE (k := 226) (c := 11) (by decide +kernel)) (by decide +kernel) (by decide +kernel) (e0r hE (k := 226) (j := 1) (r := 227) (by decide +kernel))) ?_
          refine gm_sz (gm_p_load (pc := 74) (i := .iload_n 1) (sr := 0) (j := 1) (by decide +kernel) rfl rfl rfl) ?_
          refine gm_sz (gm_p_load (pc := 75) (i := .iload_n 2) (sr := 0) (j := 2) (by decide +kernel) rfl rfl rfl) ?_
          refine gm_sz (fw_is (pc := 76) (k := 227) (len := 2093) (e0 := 95 + (3 * (N 3))) (x := (tx_v f e 4 (tx_n f e b))) (M' := gm_uM M51 227 (95 + (3 * (N 3))) (tx_v f e 4 (tx_n f e b))) (by decide +kernel) (e0a hE (k := 227) (q := ((0 : Nat), (2093 : Nat))) (by decide +kernel)).1 (e0a hE (k := 227) (q := ((0 : Nat), (2093 : Nat))) (by decide +kernel)).2 (by decide) ⟨by omega, by omega⟩ rfl) ?_
          refine gm_sz (gm_p_load (pc := 77) (i := .aload_n 0) (sr := 2) (j := 0) (by decide +kernel) rfl rfl rfl) ?_
          refine gm_sz (fw_gr (pc := 78) (ix := 13) (ci := 11) (j := 1) (r := 227) (by decide +kernel) (e0k hE (k := 226) (c := 11) (by decide +kernel)) (by decide +kernel) (by decide +kernel) (e0r hE (k := 226) (j := 1) (r := 227) (by decide +kernel))) ?_
          refine gm_sz (gm_p_load (pc := 81) (i := .iload_n 1) (sr := 0) (j := 1) (by decide +kernel) rfl rfl rfl) ?_
          refine gm_sz (gm_p_const (pc := 82) (i := .iconst 1) (v := gm_vi 1) (by decide +kernel) (by decide +kernel)) ?_
          refine gm_sz (gm_p_bin (pc := 83) (i := .iadd) (f := fun x y => x + y) (by decide +kernel) rfl) ?_
          refine gm_sz (gm_p_load (pc := 84) (i := .iload_n 3) (sr := 0) (j := 3) (by decide +kernel) rfl rfl rfl) ?_
          refine gm_sz (fw_is (pc := 85) (k := 227) (len := 2093) (e0 := (95 + (3 * (N 3))) + 1) (x := (tx_v f e 4 (tx_n f e (tx_n f e b)))) (M' := gm_uM (gm_uM M51 227 (95 + (3 * (N 3))) (tx_v f e 4 (tx_n f e b))) 227 ((95 + (3 * (N 3))) + 1) (tx_v f e 4 (tx_n f e (tx_n f e b)))) (by decide +kernel) (e0a hE (k := 227) (q := ((0 : Nat), (2093 : Nat))) (by decide +kernel)).1 (e0a hE (k := 227) (q := ((0 : Nat), (2093 : Nat))) (by decide +kernel)).2 (by decide) ⟨by omega, by omega⟩ rfl) ?_
          refine gm_sz (gm_p_load (pc := 86) (i := .aload_n 0) (sr := 2) (j := 0) (by decide +kernel) rfl rfl rfl) ?_
          refine gm_sz (fw_gr (pc := 87) (ix := 13) (ci := 11) (j := 1) (r := 227) (by decide +kernel) (e0k hE (k := 226) (c := 11) (by decide +kernel)) (by decide +kernel) (by decide +kernel) (e0r hE (k := 226) (j := 1) (r := 227) (by decide +kernel))) ?_
          refine gm_sz (gm_p_load (pc := 90) (i := .iload_n 1) (sr := 0) (j := 1) (by decide +kernel) rfl rfl rfl) ?_
          refine gm_sz (gm_p_const (pc := 91) (i := .iconst 2) (v := gm_vi 2) (by decide +kernel) (by decide +kernel)) ?_
          refine gm_sz (gm_p_bin (pc := 92) (i := .iadd) (f := fun x y => x + y) (by decide +kernel) rfl) ?_
          refine gm_sz (gm_p_load (pc := 93) (i := .iload 4) (sr := 0) (j := 4) (by decide +kernel) rfl rfl rfl) ?_
          refine gm_sz (fw_is (pc := 95) (k := 227) (len := 2093) (e0 := (95 + (3 * (N 3))) + 2) (x := (-1)) (M' := gm_uM (gm_uM (gm_uM M51 227 (95 + (3 * (N 3))) (tx_v f e 4 (tx_n f e b))) 227 ((95 + (3 * (N 3))) + 1) (tx_v f e 4 (tx_n f e (tx_n f e b)))) 227 ((95 + (3 * (N 3))) + 2) (-1)) (by decide +kernel) (e0a hE (k := 227) (q := ((0 : Nat), (2093 : Nat))) (by decide +kernel)).1 (e0a hE (k := 227) (q := ((0 : Nat), (2093 : Nat))) (by decide +kernel)).2 (by decide) ⟨by omega, by omega⟩ rfl) ?_
          refine gm_sz (gm_p_load (pc := 96) (i := .aload_n 0) (sr := 2) (j := 0) (by decide +kernel) rfl rfl rfl) ?_
          refine gm_sz (fw_gr (pc := 97) (ix := 13) (ci := 11) (j := 1) (r := 227) (by decide +kernel) (e0k hE (k := 226) (c := 11) (by decide +kernel)) (by decide +kernel) (by decide +kernel) (e0r hE (k := 226) (j := 1) (r := 227) (by decide +kernel))) ?_
          refine gm_sz (gm_p_const (pc := 100) (i := .iconst 3) (v := gm_vi 3) (by decide +kernel) (by decide +kernel)) ?_
          refine gm_sz (gm_p_dup2 (pc := 101) (by decide +kernel) fw_si fw_sr) ?_
          refine gm_sz (fw_ia (pc := 102) (k := 227) (len := 2093) (e0 := 3) (x := N 3) (by decide +kernel) (e0a hE (k := 227) (q := ((0 : Nat), (2093 : Nat))) (by decide +kernel)).1 (e0a hE (k := 227) (q := ((0 : Nat), (2093 : Nat))) (by decide +kernel)).2 (by decide) ⟨by omega, by omega⟩ ((uM_ne (by omega)).trans ((uM_ne (by omega)).trans ((uM_ne (by omega)).trans ((fr_c hf51 (by decide)).trans ((fr_c hf35 (by decide)).trans ((fr_c hf22 (by decide)).trans (tr_w hT (by decide) (by decide) (by decide))))))))) ?_
          refine gm_sz (gm_p_const (pc := 103) (i := .iconst 1) (v := gm_vi 1) (by decide +kernel) (by decide +kernel)) ?_
          refine gm_sz (gm_p_bin (pc := 104) (i := .iadd) (f := fun x y => x + y) (by decide +kernel) rfl) ?_
          refine gm_sz (fw_is (pc := 105) (k := 227) (len := 2093) (e0 := 3) (x := (N 3) + 1) (M' := gm_uM (gm_uM (gm_uM (gm_uM M51 227 (95 + (3 * (N 3))) (tx_v f e 4 (tx_n f e b))) 227 ((95 + (3 * (N 3))) + 1) (tx_v f e 4 (tx_n f e (tx_n f e b)))) 227 ((95 + (3 * (N 3))) + 2) (-1)) 227 3 ((N 3) + 1)) (by decide +kernel) (e0a hE (k := 227) (q := ((0 : Nat), (2093 : Nat))) (by decide +kernel)).1 (e0a hE (k := 227) (q := ((0 : Nat), (2093 : Nat))) (by decide +kernel)).2 (by decide) ⟨by omega, by omega⟩ rfl) ?_
          refine gm_sz (gm_p_const (pc := 106) (i := .iconst 1) (v := gm_vi 1) (by decide +kernel) (by decide +kernel)) ?_
          have ew : (nup (nup (nup (nup N (95 + ((N 3) * 3 + 0)) (tx_v f e 4 (tx_n f e b))) (95 + ((N 3) * 3 + 1)) (tx_v f e 4 (tx_n f e (tx_n f e b)))) (95 + ((N 3) * 3 + 2)) (-1)) 3 ((N 3) + 1)) = (nup (nup (nup (nup N 3 (N 3 + 1)) (95 + ((N 3) * 3 + 0)) (tx_v f e 4 (tx_n f e b))) (95 + ((N 3) * 3 + 1)) (tx_v f e 4 (tx_n f e (tx_n f e b)))) (95 + ((N 3) * 3 + 2)) (-1)) := by
            funext i
            by_cases h9 : i = 3
            · subst h9
              rw [nup_at, nup_ne (by omega), nup_ne (by omega), nup_ne (by omega), nup_at]
            · rw [nup_ne h9]
              unfold nup
              try dsimp only
              rw [if_neg h9]
          have ev : v_person f e N b = (true, (tx_n f e (tx_n f e (tx_n f e b))), (nup (nup (nup (nup N 3 (N 3 + 1)) (95 + ((N 3) * 3 + 0)) (tx_v f e 4 (tx_n f e b))) (95 + ((N 3) * 3 + 1)) (tx_v f e 4 (tx_n f e (tx_n f e b)))) (95 + ((N 3) * 3 + 2)) (-1))) := by
            unfold v_person
            rw [tif_f h16, tif_t h22, tif_t h35, tif_f h51]
            first | done | rfl
          rw [ev] at q1
          exact gm_r_int (pc := 107) (by decide +kernel) (Or.inr ⟨(by decide +kernel), Or.inr rfl⟩) (q1 (tx_n f e (tx_n f e (tx_n f e b))) _ (fr_p (fr_p (fr_p (fr_p (fr_t (fr_t (fr_t fr_0 hf22 (by decide)) hf35 (by decide)) hf51 (by decide)) (Or.inl (by decide))) (Or.inl (by decide))) (Or.inl (by decide))) (Or.inl (by decide))) (rw_fr (W := [((227 : Nat), none), ((227 : Nat), some (3 : Int))]) hr51 (fr_p (fr_p (fr_p (fr_p fr_0 (Or.inl (by decide))) (Or.inl (by decide))) (Or.inl (by decide))) (Or.inl (by decide))) (by decide)) hb35 hg51 (tr_ws (W := [((226 : Nat), some (9 : Int)), ((226 : Nat), some (11 : Int)), ((227 : Nat), none)]) hT (((ws_um (((ws_um (((ws_um (((ws_um (((ws_uf hf51 (by decide)).trans (((ws_uf hf35 (by decide)).trans (((ws_uf hf22 (by decide)).trans (hT.1))))))) ⟨by omega, by omega, by omega⟩).trans (congrArg (fun z9 => nup N z9 (tx_v f e 4 (tx_n f e b))) (show 95 + (3 * (N 3)) = (95 + ((N 3) * 3 + 0)) by omega)))) ⟨by omega, by omega, by omega⟩).trans (congrArg (fun z9 => nup (nup N (95 + ((N 3) * 3 + 0)) (tx_v f e 4 (tx_n f e b))) z9 (tx_v f e 4 (tx_n f e (tx_n f e b)))) (show (95 + (3 * (N 3))) + 1 = (95 + ((N 3) * 3 + 1)) by omega)))) ⟨by omega, by omega, by omega⟩).trans (congrArg (fun z9 => nup (nup (nup N (95 + ((N 3) * 3 + 0)) (tx_v f e 4 (tx_n f e b))) (95 + ((N 3) * 3 + 1)) (tx_v f e 4 (tx_n f e (tx_n f e b)))) z9 (-1)) (show (95 + (3 * (N 3))) + 2 = (95 + ((N 3) * 3 + 2)) by omega)))) ⟨by omega, by omega, by omega⟩)).trans ew) (fr_p (fr_p (fr_p (fr_p (fr_t (fr_t (fr_t fr_0 hf22 (by decide)) hf35 (by decide)) hf51 (by decide)) (Or.inl (by decide))) (Or.inl (by decide))) (Or.inl (by decide))) (Or.inl (by decide))) (by decide)) ⟨fun j hj => ((uM_ne (by omega)).trans ((uM_ne (by omega)).trans ((uM_ne (by omega)).trans ((uM_ne (by omega)).trans ((fr_c hf51 (by decide)).trans ((fr_c hf35 (by decide)).trans (fr_c hf22 (by decide)))))))), ((uM_ne (by omega)).trans ((uM_ne (by omega)).trans ((uM_ne (by omega)).trans ((uM_ne (by omega)).trans ((fr_c hf51 (by decide)).trans ((fr_c hf35 (by decide)).trans (fr_c hf22 (by decide))))))))⟩ rfl)
      · show gm_Wp X LX d _ _ 267 38 _ [gm_vi (-1)] n K _ _ Q
        have h35 : ¬ vn f e 0 (N 1 - 1) (tx_n f e (tx_n f e b)) := h35
        refine gm_sz (gm_p_stor (pc := 38) (i := .istore_n 3) (sr := 0) (j := 3) (by decide +kernel) rfl (show 4 ≤ _ from Nat.le_of_ble_eq_true rfl) rfl) ?_
        refine gm_sz (gm_p_load (pc := 39) (i := .iload_n 3) (sr := 0) (j := 3) (by decide +kernel) rfl rfl rfl) ?_
        refine fw_iffd (cc := .ge) (pc := 40) (off := 5) (by decide +kernel) (by decide) ⟨by decide, by decide⟩ (by decide) ?_
        refine gm_sz (gm_p_const (pc := 43) (i := .iconst 0) (v := gm_vi 0) (by decide +kernel) (by decide +kernel)) ?_
        have ev : v_person f e N b = (false, (tx_n f e (tx_n f e b)), N) := by
          unfold v_person
          rw [tif_f h16, tif_t h22, tif_f h35]
          first | done | rfl
        rw [ev] at q0
        exact gm_r_int (pc := 44) (by decide +kernel) (Or.inr ⟨(by decide +kernel), Or.inl rfl⟩) (q0 _ (fr_t (fr_t fr_0 hf22 (by decide)) hf35 (by decide)) h11_35 (fun h => by cases h))
    · show gm_Wp X LX d _ _ 267 25 _ [gm_vi (-1)] n K _ _ Q
      have h22 : ¬ vn f e 0 (N 0 - 1) (tx_n f e b) := h22
      refine gm_sz (gm_p_stor (pc := 25) (i := .istore_n 2) (sr := 0) (j := 2) (by decide +kernel) rfl (show 3 ≤ _ from Nat.le_of_ble_eq_true rfl) rfl) ?_
      refine gm_sz (gm_p_load (pc := 26) (i := .iload_n 2) (sr := 0) (j := 2) (by decide +kernel) rfl rfl rfl) ?_
      refine fw_iffd (cc := .ge) (pc := 27) (off := 7) (by decide +kernel) (by decide) ⟨by decide, by decide⟩ (by decide) ?_
      refine gm_sz (gm_p_const (pc := 30) (i := .iconst (-1)) (v := gm_vi (-1)) (by decide +kernel) (by decide +kernel)) ?_
      refine gm_sz (gm_p_goto (pc := 31) (off := 7) (by decide +kernel) (by decide)) ?_
      refine gm_sz (gm_p_stor (pc := 38) (i := .istore_n 3) (sr := 0) (j := 3) (by decide +kernel) rfl (show 4 ≤ _ from Nat.le_of_ble_eq_true rfl) rfl) ?_
      refine gm_sz (gm_p_load (pc := 39) (i := .iload_n 3) (sr := 0) (j := 3) (by decide +kernel) rfl rfl rfl) ?_
      refine fw_iffd (cc := .ge) (pc := 40) (off := 5) (by decide +kernel) (by decide) ⟨by decide, by decide⟩ (by decide) ?_
      refine gm_sz (gm_p_const (pc := 43) (i := .iconst 0) (v := gm_vi 0) (by decide +kernel) (by decide +kernel)) ?_
      have ev : v_person f e N b = (false, (tx_n f e b), N) := by
        unfold v_person
        rw [tif_f h16, tif_f h22]
        first | done | rfl
      rw [ev] at q0
      exact gm_r_int (pc := 44) (by decide +kernel) (Or.inr ⟨(by decide +kernel), Or.inl rfl⟩) (q0 _ (fr_t fr_0 hf22 (by decide)) h11_22 (fun h => by cases h))
  · have h16 : (N 3) = 8 := Classical.not_not.mp h16
    refine gm_sz (gm_p_const (pc := 19) (i := .iconst 0) (v := gm_vi 0) (by decide +kernel) (by decide +kernel)) ?_
    have ev : v_person f e N b = (false, b, N) := by
      unfold v_person
      rw [tif_t h16]
      first | done | rfl
    rw [ev] at q0
    exact gm_r_int (pc := 20) (by decide +kernel) (Or.inr ⟨(by decide +kernel), Or.inl rfl⟩) (q0 _ fr_0 hbg (fun h => by cases h))
theorem rv_270 (hd : 6 ≤ d) (hE : E0 n K R) (hF : VF f e) (hR : RW f e (tx_s f e b) M) (hbg : M 226 11 = b) (hb : 0 ≤ b ∧ b ≤ e) (hT : TR N h M) (hN : NR N) (q1 : ∀ (p2 : Int) M2, fr [((226 : Nat), some (9 : Int)), ((226 : Nat), some (11 : Int)), ((227 : Nat), none)] M M2 → RW f e p2 M2 → 0 ≤ p2 ∧ p2 ≤ e → tx_g f e p2 = (v_rock f e N b).2.1 → TR (v_rock f e N b).2.2 h M2 → BW M M2 → (v_rock f e N b).1 = true → Q (.inl (some (gm_vi 1))) n K R M2) (q0 : ∀ M2, fr [((226 : Nat), some (9 : Int)), ((226 : Nat), some (11 : Int)), ((227 : Nat), none)] M M2 → M2 226 11 = (v_rock f e N b).2.1 → ¬ (v_rock f e N b).1 = true → Q (.inl (some (gm_vi 0))) n K R M2) : gm_Wp X LX d bc bs 270 0 (gm_ent 270 [gm_vr 226]) [] n K R M Q := by
  obtain ⟨⟨⟨a0, b0⟩, ⟨a1, b1⟩, ⟨a10, b10⟩, ⟨a11, b11⟩, ⟨a12, b12⟩, a9, b9⟩, ⟨⟨a2, b2⟩, ⟨a5, b5⟩, ⟨a3, b3⟩, ⟨a4, b4⟩, ⟨a6, b6⟩, ⟨a14, b14⟩, ⟨a7, b7⟩, a13, b13⟩, rF, rP, rL⟩ := id hN
  have sb9 := tx_sb (f := f) (e := e) (b := b) hb.2
  have nb9 := tx_nb (f := f) (e := e) (b := b) hb.2
  have hp9 : 0 ≤ tx_s f e b ∧ tx_s f e b ≤ e := ⟨by have := hb.1; omega, sb9.2.1⟩
  have hb9 : 0 ≤ tx_n f e b ∧ tx_n f e b ≤ e := ⟨by have := hb.1; omega, nb9.2.1⟩
  refine gm_sz (gm_p_load (pc := 0) (i := .aload_n 0) (sr := 2) (j := 0) (by decide +kernel) rfl rfl rfl) ?_
  refine gm_c_virt (k := 226) (ci := 11) (mj := 254) (ix := 100) (pc := 1) (as := []) (st := []) (d' := d - 1) (bc' := 0) (bs' := 0) (by decide +kernel) (by decide +kernel) (by decide +kernel) (by decide +kernel) (e0k hE (k := 226) (c := 11) (by decide +kernel)).1 (e0k hE (k := 226) (c := 11) (by decide +kernel)).2 (by decide) (by decide +kernel) (show 0 = gm_na 254 by decide +kernel) fw_c0 (show 1 ≤ gm_ml 254 by decide +kernel) (Nat.le_of_ble_eq_true rfl) (by omega) (Nat.zero_le _) (Nat.zero_le _) ?_
  refine re_let hE hT hN ?_
  show gm_Wp X LX d _ _ 270 4 _ [gm_vi (N 4)] n K _ _ Q
  refine gm_sz (gm_p_const (pc := 4) (i := .bipush 24) (v := gm_vi 24) (by decide +kernel) (by decide +kernel)) ?_
  refine fw_ic (cc := .ne) (pc := 6) (off := 5) (by decide +kernel) (by decide) ⟨by omega, by omega⟩ ⟨by decide, by decide⟩ (fun h6 => ?_) (fun h6 => ?_)
  · have h6 : ¬ (N 4) = 24 := h6
    refine gm_sz (gm_p_load (pc := 11) (i := .aload_n 0) (sr := 2) (j := 0) (by decide +kernel) rfl rfl rfl) ?_
    refine gm_c_virt (k := 226) (ci := 11) (mj := 268) (ix := 165) (pc := 12) (as := []) (st := []) (d' := d - 1) (bc' := 0) (bs' := 0) (by decide +kernel) (by decide +kernel) (by decide +kernel) (by decide +kernel) (e0k hE (k := 226) (c := 11) (by decide +kernel)).1 (e0k hE (k := 226) (c := 11) (by decide +kernel)).2 (by decide) (by decide +kernel) (show 0 = gm_na 268 by decide +kernel) fw_c0 (show 1 ≤ gm_ml 268 by decide +kernel) (Nat.le_of_ble_eq_true rfl) (by omega) (Nat.zero_le _) (Nat.zero_le _) ?_
    refine rv_268 (by omega) hE hF hR hp9 rfl hb9 hT hN (fun h12 M12 hf12 hr12 => ?_) (fun h12 M12 hf12 h11_12 => ?_)
    · show gm_Wp X LX d _ _ 270 15 _ [gm_vi (tx_v f e 4 (tx_n f e b))] n K _ _ Q
      have h12 : vn f e 0 (N 0 - 1) (tx_n f e b) := h12
      have hv12 : 0 ≤ tx_v f e 4 (tx_n f e b) ∧ tx_v f e 4 (tx_n f e b) ≤ N 0 - 1 := h12.2
      have sb12 := tx_sb (f := f) (e := e) (b := (tx_n f e b)) hb9.2
      have hb12 := tx_nb (f := f) (e := e) (b := (tx_n f e b)) hb9.2
      have hp12 : 0 ≤ tx_s f e (tx_n f e b) ∧ tx_s f e (tx_n f e b) ≤ e := ⟨by have := hb9.1; omega, sb12.2.1⟩
      have hb12 : 0 ≤ tx_n f e (tx_n f e b) ∧ tx_n f e (tx_n f e b) ≤ e := ⟨by have := hb9.1; omega, hb12.2.1⟩
      refine gm_sz (gm_p_stor (pc := 15) (i := .istore_n 1) (sr := 0) (j := 1) (by decide +kernel) rfl (show 2 ≤ _ from Nat.le_of_ble_eq_true rfl) rfl) ?_
      refine gm_sz (gm_p_load (pc := 16) (i := .iload_n 1) (sr := 0) (j := 1) (by decide +kernel) rfl rfl rfl) ?_
      refine fw_ift (cc := .ge) (pc := 17) (off := 7) (by decide +kernel) (by decide) ⟨by omega, by omega⟩ (show 0 ≤ (tx_v f e 4 (tx_n f e b)) by omega) ?_
      refine gm_sz (gm_p_load (pc := 24) (i := .aload_n 0) (sr := 2) (j := 0) (by decide +kernel) rfl rfl rfl) ?_
      refine gm_c_virt (k := 226) (ci := 11) (mj := 263) (ix := 153) (pc := 25) (as := []) (st := []) (d' := d - 1) (bc' := 0) (bs' := 0) (by decide +kernel) (by decide +kernel) (by decide +kernel) (by decide +kernel) (e0k hE (k := 226) (c := 11) (by decide +kernel)).1 (e0k hE (k := 226) (c := 11) (by decide +kernel)).2 (by decide) (by decide +kernel) (show 0 = gm_na 263 by decide +kernel) fw_c0 (show 1 ≤ gm_ml 263 by decide +kernel) (Nat.le_of_ble_eq_true rfl) (by omega) (Nat.zero_le _) (Nat.zero_le _) ?_
      refine rv_263 (by omega) hE hF hr12 hp12 rfl hb12 (tr_fr (W := [((226 : Nat), some (9 : Int)), ((226 : Nat), some (11 : Int))]) hT (fr_t fr_0 hf12 (by decide)) (by decide)) hN (fun h25 M25 hf25 hr25 => ?_) (fun h25 M25 hf25 h11_25 => ?_)
      · show gm_Wp X LX d _ _ 270 28 _ [gm_vi (tx_v f e 4 (tx_n f e (tx_n f e b)))] n K _ _ Q
        have h25 : vn f e 0 (N 1 - 1) (tx_n f e (tx_n f e b)) := h25
        have hv25 : 0 ≤ tx_v f e 4 (tx_n f e (tx_n f e b)) ∧ tx_v f e 4 (tx_n f e (tx_n f e b)) ≤ N 1 - 1 := h25.2
        have sb25 := tx_sb (f := f) (e := e) (b := (tx_n f e (tx_n f e b))) hb12.2
        have hb25 := tx_nb (f := f) (e := e) (b := (tx_n f e (tx_n f e b))) hb12.2
        have hp25 : 0 ≤ tx_s f e (tx_n f e (tx_n f e b)) ∧ tx_s f e (tx_n f e (tx_n f e b)) ≤ e := ⟨by have := hb12.1; omega, sb25.2.1⟩
        have hb25 : 0 ≤ tx_n f e (tx_n f e (tx_n f e b)) ∧ tx_n f e (tx_n f e (tx_n f e b)) ≤ e := ⟨by have := hb12.1; omega, hb25.2.1⟩
        refine gm_sz (gm_p_stor (pc := 28) (i := .istore_n 2) (sr := 0) (j := 2) (by decide +kernel) rfl (show 3 ≤ _ from Nat.le_of_ble_eq_true rfl) rfl) ?_
        refine gm_sz (gm_p_load (pc := 29) (i := .iload_n 2) (sr := 0) (j := 2) (by decide +kernel) rfl rfl rfl) ?_
        refine fw_iff (cc := .lt) (pc := 30) (off := 11) (by decide +kernel) (by decide) ⟨by omega, by omega⟩ (show ¬ (tx_v f e 4 (tx_n f e (tx_n f e b))) < 0 by omega) ?_
        refine gm_sz (gm_p_load (pc := 33) (i := .aload_n 0) (sr := 2) (j := 0) (by decide +kernel) rfl rfl rfl) ?_
        refine gm_sz (gm_p_const (pc := 34) (i := .iconst (-1)) (v := gm_vi (-1)) (by decide +kernel) (by decide +kernel)) ?_
        refine gm_sz (gm_p_const (pc := 35) (i := .iconst (-1)) (v := gm_vi (-1)) (by decide +kernel) (by decide +kernel)) ?_
        refine gm_sz (gm_p_load (pc := 36) (i := .iload_n 1) (sr := 0) (j := 1) (by decide +kernel) rfl rfl rfl) ?_
        refine gm_sz (gm_p_load (pc := 37) (i := .iload_n 2) (sr := 0) (j := 2) (by decide +kernel) rfl rfl rfl) ?_
        refine gm_c_virt (k := 226) (ci := 11) (mj := 271) (ix := 177) (pc := 38) (as := [gm_vi (-1), gm_vi (-1), gm_vi (tx_v f e 4 (tx_n f e b)), gm_vi (tx_v f e 4 (tx_n f e (tx_n f e b)))]) (st := []) (d' := d - 1) (bc' := 0) (bs' := 0) (by decide +kernel) (by decide +kernel) (by decide +kernel) (by decide +kernel) (e0k hE (k := 226) (c := 11) (by decide +kernel)).1 (e0k hE (k := 226) (c := 11) (by decide +kernel)).2 (by decide) (by decide +kernel) (show 4 = gm_na 271 by decide +kernel) (fw_c4 fw_si fw_si fw_si fw_si) (show 5 ≤ gm_ml 271 by decide +kernel) (Nat.le_of_ble_eq_true rfl) (by omega) (Nat.zero_le _) (Nat.zero_le _) ?_
        refine re_ti (by omega) hE (tr_fr (W := [((226 : Nat), some (9 : Int)), ((226 : Nat), some (11 : Int))]) hT (fr_t (fr_t fr_0 hf12 (by decide)) hf25 (by decide)) (by decide)) hN ⟨by omega, by omega⟩ (fun M38 hf38 hw38 hg38 h838 => ?_)
        show gm_Wp X LX d _ _ 270 41 _ [] n K _ _ Q
        refine gm_sz (gm_p_load (pc := 41) (i := .iload_n 2) (sr := 0) (j := 2) (by decide +kernel) rfl rfl rfl) ?_
        refine fw_iff (cc := .lt) (pc := 42) (off := 7) (by decide +kernel) (by decide) ⟨by omega, by omega⟩ (show ¬ (tx_v f e 4 (tx_n f e (tx_n f e b))) < 0 by omega) ?_
        refine gm_sz (gm_p_const (pc := 45) (i := .iconst 1) (v := gm_vi 1) (by decide +kernel) (by decide +kernel)) ?_
        refine gm_sz (gm_p_goto (pc := 46) (off := 4) (by decide +kernel) (by decide)) ?_
        have ev : v_rock f e N b = (true, (tx_n f e (tx_n f e (tx_n f e b))), (nthr N (-1) (-1) (tx_v f e 4 (tx_n f e b)) (tx_v f e 4 (tx_n f e (tx_n f e b))))) := by
          unfold v_rock
          rw [tif_f h6, tif_t h12, tif_t h25]
          first | done | rfl
        rw [ev] at q1
        exact gm_r_int (pc := 50) (by decide +kernel) (Or.inr ⟨(by decide +kernel), Or.inr rfl⟩) (q1 (tx_s f e (tx_n f e (tx_n f e b))) _ (fr_t (fr_t (fr_t fr_0 hf12 (by decide)) hf25 (by decide)) hf38 (by decide)) (rw_fr (W := [((227 : Nat), none)]) hr25 (fr_t fr_0 hf38 (by decide)) (by decide)) hp25 rfl (tr_ws (W := [((226 : Nat), some (9 : Int)), ((226 : Nat), some (11 : Int)), ((227 : Nat), none)]) hT (hw38) (fr_t (fr_t (fr_t fr_0 hf12 (by decide)) hf25 (by decide)) hf38 (by decide)) (by decide)) ⟨fun j hj => ((hg38 j hj).trans ((fr_c hf25 (by decide)).trans (fr_c hf12 (by decide)))), ((h838).trans ((fr_c hf25 (by decide)).trans (fr_c hf12 (by decide))))⟩ rfl)
      · show gm_Wp X LX d _ _ 270 28 _ [gm_vi (-1)] n K _ _ Q
        have h25 : ¬ vn f e 0 (N 1 - 1) (tx_n f e (tx_n f e b)) := h25
        refine gm_sz (gm_p_stor (pc := 28) (i := .istore_n 2) (sr := 0) (j := 2) (by decide +kernel) rfl (show 3 ≤ _ from Nat.le_of_ble_eq_true rfl) rfl) ?_
        refine gm_sz (gm_p_load (pc := 29) (i := .iload_n 2) (sr := 0) (j := 2) (by decide +kernel) rfl rfl rfl) ?_
        refine fw_iftd (cc := .lt) (pc := 30) (off := 11) (by decide +kernel) (by decide) ⟨by decide, by decide⟩ (by decide) ?_
        refine gm_sz (gm_p_load (pc := 41) (i := .iload_n 2) (sr := 0) (j := 2) (by decide +kernel) rfl rfl rfl) ?_
        refine fw_iftd (cc := .lt) (pc := 42) (off := 7) (by decide +kernel) (by decide) ⟨by decide, by decide⟩ (by decide) ?_
        refine gm_sz (gm_p_const (pc := 49) (i := .iconst 0) (v := gm_vi 0) (by decide +kernel) (by decide +kernel)) ?_
        have ev : v_rock f e N b = (false, (tx_n f e (tx_n f e b)), N) := by
          unfold v_rock
          rw [tif_f h6, tif_t h12, tif_f h25]
          first | done | rfl
        rw [ev] at q0
        exact gm_r_int (pc := 50) (by decide +kernel) (Or.inr ⟨(by decide +kernel), Or.inl rfl⟩) (q0 _ (fr_t (fr_t fr_0 hf12 (by decide)) hf25 (by decide)) h11_25 (fun h => by cases h))
    · show gm_Wp X LX d _ _ 270 15 _ [gm_vi (-1)] n K _ _ Q
      have h12 : ¬ vn f e 0 (N 0 - 1) (tx_n f e b) := h12
      refine gm_sz (gm_p_stor (pc := 15) (i := .istore_n 1) (sr := 0) (j := 1) (by decide +kernel) rfl (show 2 ≤ _ from Nat.le_of_ble_eq_true rfl) rfl) ?_
      refine gm_sz (gm_p_load (pc := 16) (i := .iload_n 1) (sr := 0) (j := 1) (by decide +kernel) rfl rfl rfl) ?_
      refine fw_iffd (cc := .ge) (pc := 17) (off := 7) (by decide +kernel) (by decide) ⟨by decide, by decide⟩ (by decide) ?_
      refine gm_sz (gm_p_const (pc := 20) (i := .iconst (-1)) (v := gm_vi (-1)) (by decide +kernel) (by decide +kernel)) ?_
      refine gm_sz (gm_p_goto (pc := 21) (off := 7) (by decide +kernel) (by decide)) ?_
      refine gm_sz (gm_p_stor (pc := 28) (i := .istore_n 2) (sr := 0) (j := 2) (by decide +kernel) rfl (show 3 ≤ _ from Nat.le_of_ble_eq_true rfl) rfl) ?_
      refine gm_sz (gm_p_load (pc := 29) (i := .iload_n 2) (sr := 0) (j := 2) (by decide +kernel) rfl rfl rfl) ?_
      refine fw_iftd (cc := .lt) (pc := 30) (off := 11) (by decide +kernel) (by decide) ⟨by decide, by decide⟩ (by decide) ?_
      refine gm_sz (gm_p_load (pc := 41) (i := .iload_n 2) (sr := 0) (j := 2) (by decide +kernel) rfl rfl rfl) ?_
      refine fw_iftd (cc := .lt) (pc := 42) (off := 7) (by decide +kernel) (by decide) ⟨by decide, by decide⟩ (by decide) ?_
      refine gm_sz (gm_p_const (pc := 49) (i := .iconst 0) (v := gm_vi 0) (by decide +kernel) (by decide +kernel)) ?_
      have ev : v_rock f e N b = (false, (tx_n f e b), N) := by
        unfold v_rock
        rw [tif_f h6, tif_f h12]
        first | done | rfl
      rw [ev] at q0
      exact gm_r_int (pc := 50) (by decide +kernel) (Or.inr ⟨(by decide +kernel), Or.inl rfl⟩) (q0 _ (fr_t fr_0 hf12 (by decide)) h11_12 (fun h => by cases h))
  · have h6 : (N 4) = 24 := Classical.not_not.mp h6
    refine gm_sz (gm_p_const (pc := 9) (i := .iconst 0) (v := gm_vi 0) (by decide +kernel) (by decide +kernel)) ?_
    have ev : v_rock f e N b = (false, b, N) := by
      unfold v_rock
      rw [tif_t h6]
      first | done | rfl
    rw [ev] at q0
    exact gm_r_int (pc := 10) (by decide +kernel) (Or.inr ⟨(by decide +kernel), Or.inl rfl⟩) (q0 _ fr_0 hbg (fun h => by cases h))
theorem rv_261 {v : Int} (hE : E0 n K R) (hv : M 227 0 = v) (hq : Q (.inl (some (gm_vi v))) n K R M) : gm_Wp X LX d bc bs 261 0 (gm_ent 261 [gm_vr 226]) [] n K R M Q := by
  refine gm_sz (gm_p_load (pc := 0) (i := .aload_n 0) (sr := 2) (j := 0) (by decide +kernel) rfl rfl rfl) ?_
  refine gm_sz (fw_gr (pc := 1) (ix := 13) (ci := 11) (j := 1) (r := 227) (by decide +kernel) (e0k hE (k := 226) (c := 11) (by decide +kernel)) (by decide +kernel) (by decide +kernel) (e0r hE (k := 226) (j := 1) (r := 227) (by decide +kernel))) ?_
  refine gm_sz (gm_p_const (pc := 4) (i := .iconst 0) (v := gm_vi 0) (by decide +kernel) (by decide +kernel)) ?_
  refine gm_sz (fw_ia (pc := 5) (k := 227) (len := 2093) (e0 := 0) (x := v) (by decide +kernel) (e0a hE (k := 227) (q := ((0 : Nat), (2093 : Nat))) (by decide +kernel)).1 (e0a hE (k := 227) (q := ((0 : Nat), (2093 : Nat))) (by decide +kernel)).2 (by decide) ⟨by omega, by omega⟩ hv) ?_
  exact gm_r_int (pc := 6) (by decide +kernel) (Or.inl (by decide +kernel)) hq
theorem rv_260l (hd : 5 ≤ d) (hE : E0 n K R) (hF : VF f e) {a : Int} (ha : 15 ≤ a ∧ a + 6 ≤ 395) : ∀ (t : Nat) (lane pt b : Int) (N : Int → Int) (M : gm_M) (z : Option gm_V), lane + t = N 0 → 0 ≤ lane → N 0 ≤ 6 → RW f e pt M → 0 ≤ pt ∧ pt ≤ e → tx_g f e pt = b → 0 ≤ b ∧ b ≤ e → TR N h M → (∀ (p2 : Int) M2, fr [((226 : Nat), some (9 : Int)), ((226 : Nat), some (11 : Int)), ((227 : Nat), none)] M M2 → RW f e p2 M2 → 0 ≤ p2 ∧ p2 ≤ e → tx_g f e p2 = (v_sp f e t N (a + lane) b).2.1 → TR (v_sp f e t N (a + lane) b).2.2 h M2 → BW M M2 → (v_sp f e t N (a + lane) b).1 = true → Q (.inl (some (gm_vi 1))) n K R M2) → (∀ M2, fr [((226 : Nat), some (9 : Int)), ((226 : Nat), some (11 : Int)), ((227 : Nat), none)] M M2 → M2 226 11 = (v_sp f e t N (a + lane) b).2.1 → ¬ (v_sp f e t N (a + lane) b).1 = true → Q (.inl (some (gm_vi 0))) n K R M2) → gm_Wp X LX d bc bs 260 2 [some (gm_vr 226), some (gm_vi a), some (gm_vi lane), z] [] n K R M Q := by
  intro t
  induction t with
  | zero =>
    intro lane pt b N M z hl h0 h6 hR hp hg hb hT q1 q0
    refine gm_sz (gm_p_load (pc := 2) (i := .iload_n 2) (sr := 0) (j := 2) (by decide +kernel) rfl rfl rfl) ?_
    refine gm_sz (gm_p_load (pc := 3) (i := .aload_n 0) (sr := 2) (j := 0) (by decide +kernel) rfl rfl rfl) ?_
    refine gm_c_virt (k := 226) (ci := 11) (mj := 261) (ix := 86) (pc := 4) (as := []) (st := [gm_vi lane]) (d' := d - 1) (bc' := 0) (bs' := 0) (by decide +kernel) (by decide +kernel) (by decide +kernel) (by decide +kernel) (e0k hE (k := 226) (c := 11) (by decide +kernel)).1 (e0k hE (k := 226) (c := 11) (by decide +kernel)).2 (by decide) (by decide +kernel) (show 0 = gm_na 261 by decide +kernel) fw_c0 (show 1 ≤ gm_ml 261 by decide +kernel) (Nat.le_of_ble_eq_true rfl) (by omega) (Nat.zero_le _) (Nat.zero_le _) ?_
    refine rv_261 hE (tr_w hT (by decide) (by decide) (by decide)) ?_
    show gm_Wp X LX d _ _ 260 7 _ [gm_vi (N 0), gm_vi lane] n K _ _ Q
    refine fw_ict (cc := .ge) (pc := 7) (off := 32) (by decide +kernel) (by decide) ⟨by omega, by omega⟩ ⟨by omega, by omega⟩ (show (N 0) ≤ lane by omega) ?_
    refine gm_sz (gm_p_const (pc := 39) (i := .iconst 1) (v := gm_vi 1) (by decide +kernel) (by decide +kernel)) ?_
    exact gm_r_int (pc := 40) (by decide +kernel) (Or.inr ⟨(by decide +kernel), Or.inr rfl⟩) (q1 pt _ fr_0 hR hp hg hT ⟨fun _ _ => rfl, rfl⟩ rfl)
  | succ t ih =>
    intro lane pt b N M z hl h0 h6 hR hp hg hb hT q1 q0
    refine gm_sz (gm_p_load (pc := 2) (i := .iload_n 2) (sr := 0) (j := 2) (by decide +kernel) rfl rfl rfl) ?_
    refine gm_sz (gm_p_load (pc := 3) (i := .aload_n 0) (sr := 2) (j := 0) (by decide +kernel) rfl rfl rfl) ?_
    refine gm_c_virt (k := 226) (ci := 11) (mj := 261) (ix := 86) (pc := 4) (as := []) (st := [gm_vi lane]) (d' := d - 1) (bc' := 0) (bs' := 0) (by decide +kernel) (by decide +kernel) (by decide +kernel) (by decide +kernel) (e0k hE (k := 226) (c := 11) (by decide +kernel)).1 (e0k hE (k := 226) (c := 11) (by decide +kernel)).2 (by decide) (by decide +kernel) (show 0 = gm_na 261 by decide +kernel) fw_c0 (show 1 ≤ gm_ml 261 by decide +kernel) (Nat.le_of_ble_eq_true rfl) (by omega) (Nat.zero_le _) (Nat.zero_le _) ?_
    refine rv_261 hE (tr_w hT (by decide) (by decide) (by decide)) ?_
    show gm_Wp X LX d _ _ 260 7 _ [gm_vi (N 0), gm_vi lane] n K _ _ Q
    refine fw_icf (cc := .ge) (pc := 7) (off := 32) (by decide +kernel) (by decide) ⟨by omega, by omega⟩ ⟨by omega, by omega⟩ (show ¬ (N 0) ≤ lane by omega) ?_
    refine gm_sz (gm_p_load (pc := 10) (i := .aload_n 0) (sr := 2) (j := 0) (by decide +kernel) rfl rfl rfl) ?_
    refine gm_sz (gm_p_const (pc := 11) (i := .iconst 0) (v := gm_vi 0) (by decide +kernel) (by decide +kernel)) ?_
    refine gm_sz (gm_p_const (pc := 12) (i := .bipush 20) (v := gm_vi 20) (by decide +kernel) (by decide +kernel)) ?_
    refine gm_c_virt (k := 226) (ci := 11) (mj := 255) (ix := 142) (pc := 14) (as := [gm_vi 0, gm_vi 20]) (st := []) (d' := d - 1) (bc' := 0) (bs' := 0) (by decide +kernel) (by decide +kernel) (by decide +kernel) (by decide +kernel) (e0k hE (k := 226) (c := 11) (by decide +kernel)).1 (e0k hE (k := 226) (c := 11) (by decide +kernel)).2 (by decide) (by decide +kernel) (show 2 = gm_na 255 by decide +kernel) (fw_c2 fw_si fw_si) (show 3 ≤ gm_ml 255 by decide +kernel) (Nat.le_of_ble_eq_true rfl) (by omega) (Nat.zero_le _) (Nat.zero_le _) ?_
    refine rv_255 (by omega) hE hF hR hp hg hb ⟨by decide, by decide⟩ ⟨by decide, by decide⟩ (fun h14 M14 hf14 hr14 => ?_) (fun h14 M14 hf14 h11_14 => ?_)
    · show gm_Wp X LX d _ _ 260 17 _ [gm_vi (tx_v f e 4 b)] n K _ _ Q
      have h14 : vn f e 0 20 b := h14
      have hv14 : 0 ≤ tx_v f e 4 b ∧ tx_v f e 4 b ≤ 20 := h14.2
      have sb14 := tx_sb (f := f) (e := e) (b := b) hb.2
      have hb14 := tx_nb (f := f) (e := e) (b := b) hb.2
      have hp14 : 0 ≤ tx_s f e b ∧ tx_s f e b ≤ e := ⟨by have := hb.1; omega, sb14.2.1⟩
      have hb14 : 0 ≤ tx_n f e b ∧ tx_n f e b ≤ e := ⟨by have := hb.1; omega, hb14.2.1⟩
      refine gm_sz (gm_p_stor (pc := 17) (i := .istore_n 3) (sr := 0) (j := 3) (by decide +kernel) rfl (show 4 ≤ _ from Nat.le_of_ble_eq_true rfl) rfl) ?_
      refine gm_sz (gm_p_load (pc := 18) (i := .iload_n 3) (sr := 0) (j := 3) (by decide +kernel) rfl rfl rfl) ?_
      refine fw_ift (cc := .ge) (pc := 19) (off := 5) (by decide +kernel) (by decide) ⟨by omega, by omega⟩ (show 0 ≤ (tx_v f e 4 b) by omega) ?_
      refine gm_sz (gm_p_load (pc := 24) (i := .aload_n 0) (sr := 2) (j := 0) (by decide +kernel) rfl rfl rfl) ?_
      refine gm_sz (fw_gr (pc := 25) (ix := 13) (ci := 11) (j := 1) (r := 227) (by decide +kernel) (e0k hE (k := 226) (c := 11) (by decide +kernel)) (by decide +kernel) (by decide +kernel) (e0r hE (k := 226) (j := 1) (r := 227) (by decide +kernel))) ?_
      refine gm_sz (gm_p_load (pc := 28) (i := .iload_n 1) (sr := 0) (j := 1) (by decide +kernel) rfl rfl rfl) ?_
      refine gm_sz (gm_p_load (pc := 29) (i := .iload_n 2) (sr := 0) (j := 2) (by decide +kernel) rfl rfl rfl) ?_
      refine gm_sz (gm_p_bin (pc := 30) (i := .iadd) (f := fun x y => x + y) (by decide +kernel) rfl) ?_
      refine gm_sz (gm_p_load (pc := 31) (i := .iload_n 3) (sr := 0) (j := 3) (by decide +kernel) rfl rfl rfl) ?_
      refine gm_sz (fw_is (pc := 32) (k := 227) (len := 2093) (e0 := a + lane) (x := (tx_v f e 4 b)) (M' := gm_uM M14 227 (a + lane) (tx_v f e 4 b)) (by decide +kernel) (e0a hE (k := 227) (q := ((0 : Nat), (2093 : Nat))) (by decide +kernel)).1 (e0a hE (k := 227) (q := ((0 : Nat), (2093 : Nat))) (by decide +kernel)).2 (by decide) ⟨by omega, by omega⟩ rfl) ?_
      refine gm_sz (gm_p_iinc (pc := 33) (j := 2) (z := 1) (by decide +kernel) rfl) ?_
      refine gm_sz (gm_p_goto (pc := 36) (off := (-34)) (by decide +kernel) (by decide)) ?_
      have ev : v_sp f e (t + 1) N (a + lane) b = v_sp f e t (nup N (a + lane) (tx_v f e 4 b)) (a + lane + 1) (tx_n f e b) := tif_t h14
      rw [ev, show a + lane + 1 = a + (lane + 1) by omega] at q1 q0
      have bw : BW M (gm_uM M14 227 (a + lane) (tx_v f e 4 b)) := ⟨fun j hj => ((uM_ne (by omega)).trans (fr_c hf14 (by decide))), ((uM_ne (by omega)).trans (fr_c hf14 (by decide)))⟩
      exact ih (lane + 1) _ _ (nup N (a + lane) (tx_v f e 4 b)) _ _ (by rw [nup_ne (by omega)]; omega) (by omega) (by rw [nup_ne (by omega)]; exact h6) (rw_fr (W := [((227 : Nat), none)]) hr14 (fr_p fr_0 (Or.inl (by decide))) (by decide)) hp14 rfl hb14 (tr_ws (W := [((226 : Nat), some (9 : Int)), ((226 : Nat), some (11 : Int)), ((227 : Nat), none)]) hT ((ws_um (((ws_uf hf14 (by decide)).trans (hT.1))) ⟨by omega, by omega, by omega⟩)) (fr_p (fr_t fr_0 hf14 (by decide)) (Or.inl (by decide))) (by decide)) (fun p2 M2 g1 g2 g3 g4 g5 g6 g7 => q1 p2 M2 (fr_t (fr_p (fr_t fr_0 hf14 (by decide)) (Or.inl (by decide))) g1 (by decide)) g2 g3 g4 g5 (bw_t bw g6) g7) (fun M2 g1 g2 g3 => q0 M2 (fr_t (fr_p (fr_t fr_0 hf14 (by decide)) (Or.inl (by decide))) g1 (by decide)) g2 g3)
    · show gm_Wp X LX d _ _ 260 17 _ [gm_vi (-1)] n K _ _ Q
      have h14 : ¬ vn f e 0 20 b := h14
      refine gm_sz (gm_p_stor (pc := 17) (i := .istore_n 3) (sr := 0) (j := 3) (by decide +kernel) rfl (show 4 ≤ _ from Nat.le_of_ble_eq_true rfl) rfl) ?_
      refine gm_sz (gm_p_load (pc := 18) (i := .iload_n 3) (sr := 0) (j := 3) (by decide +kernel) rfl rfl rfl) ?_
      refine fw_iffd (cc := .ge) (pc := 19) (off := 5) (by decide +kernel) (by decide) ⟨by decide, by decide⟩ (by decide) ?_
      refine gm_sz (gm_p_const (pc := 22) (i := .iconst 0) (v := gm_vi 0) (by decide +kernel) (by decide +kernel)) ?_
      have ev : v_sp f e (t + 1) N (a + lane) b = (false, b, N) := tif_f h14
      rw [ev] at q0
      exact gm_r_int (pc := 23) (by decide +kernel) (Or.inr ⟨(by decide +kernel), Or.inl rfl⟩) (q0 _ (fr_t fr_0 hf14 (by decide)) h11_14 (fun h => by cases h))
theorem rv_260 (hd : 5 ≤ d) (hE : E0 n K R) (hF : VF f e) {a : Int} (ha : 15 ≤ a ∧ a + 6 ≤ 395) {t : Nat} (ht : (t : Int) = N 0) (h6 : N 0 ≤ 6) (hR : RW f e pt M) (hp : 0 ≤ pt ∧ pt ≤ e) (hg : tx_g f e pt = b) (hb : 0 ≤ b ∧ b ≤ e) (hT : TR N h M) (q1 : ∀ (p2 : Int) M2, fr [((226 : Nat), some (9 : Int)), ((226 : Nat), some (11 : Int)), ((227 : Nat), none)] M M2 → RW f e p2 M2 → 0 ≤ p2 ∧ p2 ≤ e → tx_g f e p2 = (v_sp f e t N a b).2.1 → TR (v_sp f e t N a b).2.2 h M2 → BW M M2 → (v_sp f e t N a b).1 = true → Q (.inl (some (gm_vi 1))) n K R M2) (q0 : ∀ M2, fr [((226 : Nat), some (9 : Int)), ((226 : Nat), some (11 : Int)), ((227 : Nat), none)] M M2 → M2 226 11 = (v_sp f e t N a b).2.1 → ¬ (v_sp f e t N a b).1 = true → Q (.inl (some (gm_vi 0))) n K R M2) : gm_Wp X LX d bc bs 260 0 (gm_ent 260 [gm_vr 226, gm_vi a]) [] n K R M Q := by
  refine gm_sz (gm_p_const (pc := 0) (i := .iconst 0) (v := gm_vi 0) (by decide +kernel) (by decide +kernel)) ?_
  refine gm_sz (gm_p_stor (pc := 1) (i := .istore_n 2) (sr := 0) (j := 2) (by decide +kernel) rfl (show 3 ≤ _ from Nat.le_of_ble_eq_true rfl) rfl) ?_
  have e0 : a + 0 = a := Int.add_zero a
  exact rv_260l hd hE hF ha t 0 pt b N M none (by omega) (Int.le_refl _) h6 hR hp hg hb hT (by rw [e0]; exact q1) (by rw [e0]; exact q0)
theorem rv_258 (hd : 8 ≤ d) (hE : E0 n K R) (hF : VF f e) (hR : RW f e (tx_s f e b) M) (hbg : M 226 11 = b) (hb : 0 ≤ b ∧ b ≤ e) (hT : TR N h M) (hN : NR N) (hS : NS N) (q1 : ∀ (p2 : Int) M2, fr [((226 : Nat), some (9 : Int)), ((226 : Nat), some (11 : Int)), ((227 : Nat), none)] M M2 → RW f e p2 M2 → 0 ≤ p2 ∧ p2 ≤ e → tx_g f e p2 = (v_section f e N b).2.1 → TR (v_section f e N b).2.2 h M2 → BW M M2 → (v_section f e N b).1 = true → Q (.inl (some (gm_vi 1))) n K R M2) (q0 : ∀ M2, fr [((226 : Nat), some (9 : Int)), ((226 : Nat), some (11 : Int)), ((227 : Nat), none)] M M2 → M2 226 11 = (v_section f e N b).2.1 → ¬ (v_section f e N b).1 = true → Q (.inl (some (gm_vi 0))) n K R M2) : gm_Wp X LX d bc bs 258 0 (gm_ent 258 [gm_vr 226]) [] n K R M Q := by
  obtain ⟨⟨⟨a0, b0⟩, ⟨a1, b1⟩, ⟨a10, b10⟩, ⟨a11, b11⟩, ⟨a12, b12⟩, a9, b9⟩, ⟨⟨a2, b2⟩, ⟨a5, b5⟩, ⟨a3, b3⟩, ⟨a4, b4⟩, ⟨a6, b6⟩, ⟨a14, b14⟩, ⟨a7, b7⟩, a13, b13⟩, rF, rP, rL⟩ := id hN
  have sb9 := tx_sb (f := f) (e := e) (b := b) hb.2
  have nb9 := tx_nb (f := f) (e := e) (b := b) hb.2
  have hp9 : 0 ≤ tx_s f e b ∧ tx_s f e b ≤ e := ⟨by have := hb.1; omega, sb9.2.1⟩
  have hb9 : 0 ≤ tx_n f e b ∧ tx_n f e b ≤ e := ⟨by have := hb.1; omega, nb9.2.1⟩
  have hs9 : ¬ N 2 = 0 → 0 ≤ N (15 + ((N 2 - 1) * 7 + 0)) ∧ N (15 + ((N 2 - 1) * 7 + 0)) ≤ 98 := fun h2 => by have z := (hS (N 2 - 1) (by omega) (by omega)).1; rwa [show (15 : Int) + 7 * (N 2 - 1) = 15 + ((N 2 - 1) * 7 + 0) by omega] at z
  refine gm_sz (gm_p_load (pc := 0) (i := .aload_n 0) (sr := 2) (j := 0) (by decide +kernel) rfl rfl rfl) ?_
  refine gm_sz (fw_gr (pc := 1) (ix := 13) (ci := 11) (j := 1) (r := 227) (by decide +kernel) (e0k hE (k := 226) (c := 11) (by decide +kernel)) (by decide +kernel) (by decide +kernel) (e0r hE (k := 226) (j := 1) (r := 227) (by decide +kernel))) ?_
  refine gm_sz (gm_p_const (pc := 4) (i := .iconst 2) (v := gm_vi 2) (by decide +kernel) (by decide +kernel)) ?_
  refine gm_sz (fw_ia (pc := 5) (k := 227) (len := 2093) (e0 := 2) (x := N 2) (by decide +kernel) (e0a hE (k := 227) (q := ((0 : Nat), (2093 : Nat))) (by decide +kernel)).1 (e0a hE (k := 227) (q := ((0 : Nat), (2093 : Nat))) (by decide +kernel)).2 (by decide) ⟨by omega, by omega⟩ (tr_w hT (by decide) (by decide) (by decide))) ?_
  refine gm_sz (gm_p_stor (pc := 6) (i := .istore_n 1) (sr := 0) (j := 1) (by decide +kernel) rfl (show 2 ≤ _ from Nat.le_of_ble_eq_true rfl) rfl) ?_
  refine gm_sz (gm_p_load (pc := 7) (i := .iload_n 1) (sr := 0) (j := 1) (by decide +kernel) rfl rfl rfl) ?_
  refine gm_sz (gm_p_const (pc := 8) (i := .bipush 8) (v := gm_vi 8) (by decide +kernel) (by decide +kernel)) ?_
  refine fw_ic (cc := .ne) (pc := 10) (off := 5) (by decide +kernel) (by decide) ⟨by omega, by omega⟩ ⟨by decide, by decide⟩ (fun h10 => ?_) (fun h10 => ?_)
  · have h10 : ¬ (N 2) = 8 := h10
    refine gm_sz (gm_p_const (pc := 15) (i := .bipush 15) (v := gm_vi 15) (by decide +kernel) (by decide +kernel)) ?_
    refine gm_sz (gm_p_const (pc := 17) (i := .bipush 7) (v := gm_vi 7) (by decide +kernel) (by decide +kernel)) ?_
    refine gm_sz (gm_p_load (pc := 19) (i := .iload_n 1) (sr := 0) (j := 1) (by decide +kernel) rfl rfl rfl) ?_
    refine gm_sz (gm_p_bin (pc := 20) (i := .imul) (f := fun x y => x * y) (by decide +kernel) rfl) ?_
    refine gm_sz (gm_p_bin (pc := 21) (i := .iadd) (f := fun x y => x + y) (by decide +kernel) rfl) ?_
    refine gm_sz (gm_p_stor (pc := 22) (i := .istore_n 2) (sr := 0) (j := 2) (by decide +kernel) rfl (show 3 ≤ _ from Nat.le_of_ble_eq_true rfl) rfl) ?_
    refine gm_sz (gm_p_load (pc := 23) (i := .iload_n 1) (sr := 0) (j := 1) (by decide +kernel) rfl rfl rfl) ?_
    refine fw_if (cc := .ne) (pc := 24) (off := 12) (by decide +kernel) (by decide) ⟨by omega, by omega⟩ (fun h24 => ?_) (fun h24 => ?_)
    · have h24 : ¬ (N 2) = 0 := h24
      refine gm_sz (gm_p_load (pc := 36) (i := .aload_n 0) (sr := 2) (j := 0) (by decide +kernel) rfl rfl rfl) ?_
      refine gm_sz (gm_p_load (pc := 37) (i := .aload_n 0) (sr := 2) (j := 0) (by decide +kernel) rfl rfl rfl) ?_
      refine gm_sz (fw_gr (pc := 38) (ix := 13) (ci := 11) (j := 1) (r := 227) (by decide +kernel) (e0k hE (k := 226) (c := 11) (by decide +kernel)) (by decide +kernel) (by decide +kernel) (e0r hE (k := 226) (j := 1) (r := 227) (by decide +kernel))) ?_
      refine gm_sz (gm_p_load (pc := 41) (i := .iload_n 2) (sr := 0) (j := 2) (by decide +kernel) rfl rfl rfl) ?_
      refine gm_sz (gm_p_const (pc := 42) (i := .bipush 7) (v := gm_vi 7) (by decide +kernel) (by decide +kernel)) ?_
      refine gm_sz (gm_p_bin (pc := 44) (i := .isub) (f := fun x y => x - y) (by decide +kernel) rfl) ?_
      refine gm_sz (fw_ia (pc := 45) (k := 227) (len := 2093) (e0 := (15 + (7 * (N 2))) - 7) (x := N (15 + ((N 2 - 1) * 7 + 0))) (by decide +kernel) (e0a hE (k := 227) (q := ((0 : Nat), (2093 : Nat))) (by decide +kernel)).1 (e0a hE (k := 227) (q := ((0 : Nat), (2093 : Nat))) (by decide +kernel)).2 (by decide) ⟨by omega, by omega⟩ (tr_x hT (show (15 + (7 * (N 2))) - 7 = (15 + ((N 2 - 1) * 7 + 0)) by omega) (by omega) (by omega) (by omega))) ?_
      refine gm_sz (gm_p_const (pc := 46) (i := .iconst 1) (v := gm_vi 1) (by decide +kernel) (by decide +kernel)) ?_
      refine gm_sz (gm_p_bin (pc := 47) (i := .iadd) (f := fun x y => x + y) (by decide +kernel) rfl) ?_
      refine gm_sz (gm_p_load (pc := 48) (i := .aload_n 0) (sr := 2) (j := 0) (by decide +kernel) rfl rfl rfl) ?_
      refine gm_c_virt (k := 226) (ci := 11) (mj := 259) (ix := 94) (pc := 49) (as := []) (st := [gm_vi ((N (15 + ((N 2 - 1) * 7 + 0))) + 1), gm_vr 226]) (d' := d - 1) (bc' := 0) (bs' := 0) (by decide +kernel) (by decide +kernel) (by decide +kernel) (by decide +kernel) (e0k hE (k := 226) (c := 11) (by decide +kernel)).1 (e0k hE (k := 226) (c := 11) (by decide +kernel)).2 (by decide) (by decide +kernel) (show 0 = gm_na 259 by decide +kernel) fw_c0 (show 1 ≤ gm_ml 259 by decide +kernel) (Nat.le_of_ble_eq_true rfl) (by omega) (Nat.zero_le _) (Nat.zero_le _) ?_
      refine re_lip hE hT hN ?_
      show gm_Wp X LX d _ _ 258 52 _ [gm_vi (N 1), gm_vi ((N (15 + ((N 2 - 1) * 7 + 0))) + 1), gm_vr 226] n K _ _ Q
      refine gm_sz (gm_p_const (pc := 52) (i := .iconst 1) (v := gm_vi 1) (by decide +kernel) (by decide +kernel)) ?_
      refine gm_sz (gm_p_bin (pc := 53) (i := .isub) (f := fun x y => x - y) (by decide +kernel) rfl) ?_
      refine gm_c_virt (k := 226) (ci := 11) (mj := 255) (ix := 142) (pc := 54) (as := [gm_vi ((N (15 + ((N 2 - 1) * 7 + 0))) + 1), gm_vi ((N 1) - 1)]) (st := []) (d' := d - 1) (bc' := 0) (bs' := 0) (by decide +kernel) (by decide +kernel) (by decide +kernel) (by decide +kernel) (e0k hE (k := 226) (c := 11) (by decide +kernel)).1 (e0k hE (k := 226) (c := 11) (by decide +kernel)).2 (by decide) (by decide +kernel) (show 2 = gm_na 255 by decide +kernel) (fw_c2 fw_si fw_si) (show 3 ≤ gm_ml 255 by decide +kernel) (Nat.le_of_ble_eq_true rfl) (by omega) (Nat.zero_le _) (Nat.zero_le _) ?_
      refine rv_255 (by omega) hE hF hR hp9 rfl hb9 ⟨by omega, by omega⟩ ⟨by omega, by omega⟩ (fun h54 M54 hf54 hr54 => ?_) (fun h54 M54 hf54 h11_54 => ?_)
      · show gm_Wp X LX d _ _ 258 57 _ [gm_vi (tx_v f e 4 (tx_n f e b))] n K _ _ Q
        have h54 : vn f e ((N (15 + ((N 2 - 1) * 7 + 0))) + 1) ((N 1) - 1) (tx_n f e b) := h54
        have hv54 : (N (15 + ((N 2 - 1) * 7 + 0))) + 1 ≤ tx_v f e 4 (tx_n f e b) ∧ tx_v f e 4 (tx_n f e b) ≤ (N 1) - 1 := h54.2
        have sb54 := tx_sb (f := f) (e := e) (b := (tx_n f e b)) hb9.2
        have hb54 := tx_nb (f := f) (e := e) (b := (tx_n f e b)) hb9.2
        have hp54 : 0 ≤ tx_s f e (tx_n f e b) ∧ tx_s f e (tx_n f e b) ≤ e := ⟨by have := hb9.1; omega, sb54.2.1⟩
        have hb54 : 0 ≤ tx_n f e (tx_n f e b) ∧ tx_n f e (tx_n f e b) ≤ e := ⟨by have := hb9.1; omega, hb54.2.1⟩
        refine gm_sz (gm_p_stor (pc := 57) (i := .istore_n 3) (sr := 0) (j := 3) (by decide +kernel) rfl (show 4 ≤ _ from Nat.le_of_ble_eq_true rfl) rfl) ?_
        refine gm_sz (gm_p_load (pc := 58) (i := .iload_n 3) (sr := 0) (j := 3) (by decide +kernel) rfl rfl rfl) ?_
        refine fw_iff (cc := .lt) (pc := 59) (off := 13) (by decide +kernel) (by decide) ⟨by omega, by omega⟩ (show ¬ (tx_v f e 4 (tx_n f e b)) < 0 by omega) ?_
        refine gm_sz (gm_p_load (pc := 62) (i := .aload_n 0) (sr := 2) (j := 0) (by decide +kernel) rfl rfl rfl) ?_
        refine gm_sz (gm_p_load (pc := 63) (i := .iload_n 2) (sr := 0) (j := 2) (by decide +kernel) rfl rfl rfl) ?_
        refine gm_sz (gm_p_const (pc := 64) (i := .iconst 1) (v := gm_vi 1) (by decide +kernel) (by decide +kernel)) ?_
        refine gm_sz (gm_p_bin (pc := 65) (i := .iadd) (f := fun x y => x + y) (by decide +kernel) rfl) ?_
        refine gm_c_virt (k := 226) (ci := 11) (mj := 260) (ix := 149) (pc := 66) (as := [gm_vi ((15 + (7 * (N 2))) + 1)]) (st := []) (d' := d - 1) (bc' := 0) (bs' := 0) (by decide +kernel) (by decide +kernel) (by decide +kernel) (by decide +kernel) (e0k hE (k := 226) (c := 11) (by decide +kernel)).1 (e0k hE (k := 226) (c := 11) (by decide +kernel)).2 (by decide) (by decide +kernel) (show 1 = gm_na 260 by decide +kernel) (fw_c1 fw_si) (show 2 ≤ gm_ml 260 by decide +kernel) (Nat.le_of_ble_eq_true rfl) (by omega) (Nat.zero_le _) (Nat.zero_le _) ?_
        refine rv_260 (by omega) hE hF (t := (N 0).toNat) ⟨by omega, by omega⟩ (by omega) (by omega) hr54 hp54 rfl hb54 (tr_fr (W := [((226 : Nat), some (9 : Int)), ((226 : Nat), some (11 : Int))]) hT (fr_t fr_0 hf54 (by decide)) (by decide)) (fun p2 M66 g1 g2 g3 g4 g5 g6 g7 => ?_) (fun M66 g1 g2 g3 => ?_)
        · show gm_Wp X LX d _ _ 258 69 _ [gm_vi 1] n K _ _ Q
          have hsp := v_sp_w (f := f) (e := e) _ _ _ _ g7
          refine fw_iftd (cc := .ne) (pc := 69) (off := 5) (by decide +kernel) (by decide) ⟨by decide, by decide⟩ (by decide) ?_
          refine gm_sz (gm_p_load (pc := 74) (i := .aload_n 0) (sr := 2) (j := 0) (by decide +kernel) rfl rfl rfl) ?_
          refine gm_sz (fw_gr (pc := 75) (ix := 13) (ci := 11) (j := 1) (r := 227) (by decide +kernel) (e0k hE (k := 226) (c := 11) (by decide +kernel)) (by decide +kernel) (by decide +kernel) (e0r hE (k := 226) (j := 1) (r := 227) (by decide +kernel))) ?_
          refine gm_sz (gm_p_load (pc := 78) (i := .iload_n 2) (sr := 0) (j := 2) (by decide +kernel) rfl rfl rfl) ?_
          refine gm_sz (gm_p_load (pc := 79) (i := .iload_n 3) (sr := 0) (j := 3) (by decide +kernel) rfl rfl rfl) ?_
          refine gm_sz (fw_is (pc := 80) (k := 227) (len := 2093) (e0 := 15 + (7 * (N 2))) (x := (tx_v f e 4 (tx_n f e b))) (M' := gm_uM M66 227 (15 + (7 * (N 2))) (tx_v f e 4 (tx_n f e b))) (by decide +kernel) (e0a hE (k := 227) (q := ((0 : Nat), (2093 : Nat))) (by decide +kernel)).1 (e0a hE (k := 227) (q := ((0 : Nat), (2093 : Nat))) (by decide +kernel)).2 (by decide) ⟨by omega, by omega⟩ rfl) ?_
          refine gm_sz (gm_p_load (pc := 81) (i := .aload_n 0) (sr := 2) (j := 0) (by decide +kernel) rfl rfl rfl) ?_
          refine gm_sz (fw_gr (pc := 82) (ix := 13) (ci := 11) (j := 1) (r := 227) (by decide +kernel) (e0k hE (k := 226) (c := 11) (by decide +kernel)) (by decide +kernel) (by decide +kernel) (e0r hE (k := 226) (j := 1) (r := 227) (by decide +kernel))) ?_
          refine gm_sz (gm_p_const (pc := 85) (i := .iconst 2) (v := gm_vi 2) (by decide +kernel) (by decide +kernel)) ?_
          refine gm_sz (gm_p_dup2 (pc := 86) (by decide +kernel) fw_si fw_sr) ?_
          refine gm_sz (fw_ia (pc := 87) (k := 227) (len := 2093) (e0 := 2) (x := (N 2)) (by decide +kernel) (e0a hE (k := 227) (q := ((0 : Nat), (2093 : Nat))) (by decide +kernel)).1 (e0a hE (k := 227) (q := ((0 : Nat), (2093 : Nat))) (by decide +kernel)).2 (by decide) ⟨by omega, by omega⟩ ((uM_ne (by omega)).trans ((tr_w g5 (by decide) (by decide) (by decide)).trans (hsp.1 2 (by omega))))) ?_
          refine gm_sz (gm_p_const (pc := 88) (i := .iconst 1) (v := gm_vi 1) (by decide +kernel) (by decide +kernel)) ?_
          refine gm_sz (gm_p_bin (pc := 89) (i := .iadd) (f := fun x y => x + y) (by decide +kernel) rfl) ?_
          refine gm_sz (fw_is (pc := 90) (k := 227) (len := 2093) (e0 := 2) (x := (N 2) + 1) (M' := gm_uM (gm_uM M66 227 (15 + (7 * (N 2))) (tx_v f e 4 (tx_n f e b))) 227 2 ((N 2) + 1)) (by decide +kernel) (e0a hE (k := 227) (q := ((0 : Nat), (2093 : Nat))) (by decide +kernel)).1 (e0a hE (k := 227) (q := ((0 : Nat), (2093 : Nat))) (by decide +kernel)).2 (by decide) ⟨by omega, by omega⟩ rfl) ?_
          refine gm_sz (gm_p_const (pc := 91) (i := .iconst 1) (v := gm_vi 1) (by decide +kernel) (by decide +kernel)) ?_
          have ev : v_section f e N b = ((v_sp f e (N 0).toNat N ((15 + (7 * (N 2))) + 1) (tx_n f e (tx_n f e b))).1, (v_sp f e (N 0).toNat N ((15 + (7 * (N 2))) + 1) (tx_n f e (tx_n f e b))).2.1, (nup (nup (v_sp f e (N 0).toNat N ((15 + (7 * (N 2))) + 1) (tx_n f e (tx_n f e b))).2.2 (15 + ((N 2) * 7 + 0)) (tx_v f e 4 (tx_n f e b))) 2 (N 2 + 1))) := by
            unfold v_section
            rw [tif_f h10, tif_t (by rw [if_neg h24, if_neg h24]; exact h54), show (15 : Int) + (N 2 * 7 + (1 + 0)) = 15 + 7 * N 2 + 1 by omega, v_sp_c _ _ _ _ (by omega), v_sp_c _ _ _ _ (by omega)]
            dsimp only
            rw [nup_c (by omega)]
          rw [ev] at q1 q0
          exact gm_r_int (pc := 92) (by decide +kernel) (Or.inr ⟨(by decide +kernel), Or.inr rfl⟩) (q1 p2 _ (fr_p (fr_p (fr_t (fr_t fr_0 hf54 (by decide)) g1 (by decide)) (Or.inl (by decide))) (Or.inl (by decide))) (rw_fr (W := [((227 : Nat), none), ((227 : Nat), some (2 : Int))]) g2 (fr_p (fr_p fr_0 (Or.inl (by decide))) (Or.inl (by decide))) (by decide)) g3 g4 (tr_ws (W := [((226 : Nat), some (9 : Int)), ((226 : Nat), some (11 : Int)), ((227 : Nat), none)]) hT ((ws_um (((ws_um (g5.1) ⟨by omega, by omega, by omega⟩).trans (congrArg (fun z9 => nup (v_sp f e (N 0).toNat N ((15 + (7 * (N 2))) + 1) (tx_n f e (tx_n f e b))).2.2 z9 (tx_v f e 4 (tx_n f e b))) (show 15 + (7 * (N 2)) = (15 + ((N 2) * 7 + 0)) by omega)))) ⟨by omega, by omega, by omega⟩)) (fr_p (fr_p (fr_t (fr_t fr_0 hf54 (by decide)) g1 (by decide)) (Or.inl (by decide))) (Or.inl (by decide))) (by decide)) ⟨fun j hj => ((uM_ne (by omega)).trans ((uM_ne (by omega)).trans ((g6.1 j hj).trans (fr_c hf54 (by decide))))), ((uM_ne (by omega)).trans ((uM_ne (by omega)).trans ((g6.2).trans (fr_c hf54 (by decide)))))⟩ g7)
        · show gm_Wp X LX d _ _ 258 69 _ [gm_vi 0] n K _ _ Q
          refine fw_iffd (cc := .ne) (pc := 69) (off := 5) (by decide +kernel) (by decide) ⟨by decide, by decide⟩ (by decide) ?_
          refine gm_sz (gm_p_const (pc := 72) (i := .iconst 0) (v := gm_vi 0) (by decide +kernel) (by decide +kernel)) ?_
          have ev : v_section f e N b = ((v_sp f e (N 0).toNat N ((15 + (7 * (N 2))) + 1) (tx_n f e (tx_n f e b))).1, (v_sp f e (N 0).toNat N ((15 + (7 * (N 2))) + 1) (tx_n f e (tx_n f e b))).2.1, (nup (nup (v_sp f e (N 0).toNat N ((15 + (7 * (N 2))) + 1) (tx_n f e (tx_n f e b))).2.2 (15 + (N 2 * 7 + 0)) (tx_v f e 4 (tx_n f e b))) 2 (N 2 + 1))) := by
            unfold v_section
            rw [tif_f h10, tif_t (by rw [if_neg h24, if_neg h24]; exact h54), show (15 : Int) + (N 2 * 7 + (1 + 0)) = 15 + 7 * N 2 + 1 by omega, v_sp_c _ _ _ _ (by omega), v_sp_c _ _ _ _ (by omega)]
            dsimp only
            rw [nup_c (by omega)]
          rw [ev] at q1 q0
          exact gm_r_int (pc := 73) (by decide +kernel) (Or.inr ⟨(by decide +kernel), Or.inl rfl⟩) (q0 _ (fr_t (fr_t fr_0 hf54 (by decide)) g1 (by decide)) g2 g3)
      · show gm_Wp X LX d _ _ 258 57 _ [gm_vi (-1)] n K _ _ Q
        have h54 : ¬ vn f e ((N (15 + ((N 2 - 1) * 7 + 0))) + 1) ((N 1) - 1) (tx_n f e b) := h54
        refine gm_sz (gm_p_stor (pc := 57) (i := .istore_n 3) (sr := 0) (j := 3) (by decide +kernel) rfl (show 4 ≤ _ from Nat.le_of_ble_eq_true rfl) rfl) ?_
        refine gm_sz (gm_p_load (pc := 58) (i := .iload_n 3) (sr := 0) (j := 3) (by decide +kernel) rfl rfl rfl) ?_
        refine fw_iftd (cc := .lt) (pc := 59) (off := 13) (by decide +kernel) (by decide) ⟨by decide, by decide⟩ (by decide) ?_
        refine gm_sz (gm_p_const (pc := 72) (i := .iconst 0) (v := gm_vi 0) (by decide +kernel) (by decide +kernel)) ?_
        have ev : v_section f e N b = (false, (tx_n f e b), N) := by
          unfold v_section
          rw [tif_f h10, tif_f (by rw [if_neg h24, if_neg h24]; exact h54)]
          first | done | rfl
        rw [ev] at q0
        exact gm_r_int (pc := 73) (by decide +kernel) (Or.inr ⟨(by decide +kernel), Or.inl rfl⟩) (q0 _ (fr_t fr_0 hf54 (by decide)) h11_54 (fun h => by cases h))
    · have h24 : (N 2) = 0 := Classical.not_not.mp h24
      refine gm_sz (gm_p_load (pc := 27) (i := .aload_n 0) (sr := 2) (j := 0) (by decide +kernel) rfl rfl rfl) ?_
      refine gm_sz (gm_p_const (pc := 28) (i := .iconst 0) (v := gm_vi 0) (by decide +kernel) (by decide +kernel)) ?_
      refine gm_sz (gm_p_const (pc := 29) (i := .iconst 0) (v := gm_vi 0) (by decide +kernel) (by decide +kernel)) ?_
      refine gm_c_virt (k := 226) (ci := 11) (mj := 255) (ix := 142) (pc := 30) (as := [gm_vi 0, gm_vi 0]) (st := []) (d' := d - 1) (bc' := 0) (bs' := 0) (by decide +kernel) (by decide +kernel) (by decide +kernel) (by decide +kernel) (e0k hE (k := 226) (c := 11) (by decide +kernel)).1 (e0k hE (k := 226) (c := 11) (by decide +kernel)).2 (by decide) (by decide +kernel) (show 2 = gm_na 255 by decide +kernel) (fw_c2 fw_si fw_si) (show 3 ≤ gm_ml 255 by decide +kernel) (Nat.le_of_ble_eq_true rfl) (by omega) (Nat.zero_le _) (Nat.zero_le _) ?_
      refine rv_255 (by omega) hE hF hR hp9 rfl hb9 ⟨by decide, by decide⟩ ⟨by decide, by decide⟩ (fun h30 M30 hf30 hr30 => ?_) (fun h30 M30 hf30 h11_30 => ?_)
      · show gm_Wp X LX d _ _ 258 33 _ [gm_vi (tx_v f e 4 (tx_n f e b))] n K _ _ Q
        have h30 : vn f e 0 0 (tx_n f e b) := h30
        have hv30 : 0 ≤ tx_v f e 4 (tx_n f e b) ∧ tx_v f e 4 (tx_n f e b) ≤ 0 := h30.2
        have sb30 := tx_sb (f := f) (e := e) (b := (tx_n f e b)) hb9.2
        have hb30 := tx_nb (f := f) (e := e) (b := (tx_n f e b)) hb9.2
        have hp30 : 0 ≤ tx_s f e (tx_n f e b) ∧ tx_s f e (tx_n f e b) ≤ e := ⟨by have := hb9.1; omega, sb30.2.1⟩
        have hb30 : 0 ≤ tx_n f e (tx_n f e b) ∧ tx_n f e (tx_n f e b) ≤ e := ⟨by have := hb9.1; omega, hb30.2.1⟩
        refine gm_sz (gm_p_goto (pc := 33) (off := 24) (by decide +kernel) (by decide)) ?_
        refine gm_sz (gm_p_stor (pc := 57) (i := .istore_n 3) (sr := 0) (j := 3) (by decide +kernel) rfl (show 4 ≤ _ from Nat.le_of_ble_eq_true rfl) rfl) ?_
        refine gm_sz (gm_p_load (pc := 58) (i := .iload_n 3) (sr := 0) (j := 3) (by decide +kernel) rfl rfl rfl) ?_
        refine fw_iff (cc := .lt) (pc := 59) (off := 13) (by decide +kernel) (by decide) ⟨by omega, by omega⟩ (show ¬ (tx_v f e 4 (tx_n f e b)) < 0 by omega) ?_
        refine gm_sz (gm_p_load (pc := 62) (i := .aload_n 0) (sr := 2) (j := 0) (by decide +kernel) rfl rfl rfl) ?_
        refine gm_sz (gm_p_load (pc := 63) (i := .iload_n 2) (sr := 0) (j := 2) (by decide +kernel) rfl rfl rfl) ?_
        refine gm_sz (gm_p_const (pc := 64) (i := .iconst 1) (v := gm_vi 1) (by decide +kernel) (by decide +kernel)) ?_
        refine gm_sz (gm_p_bin (pc := 65) (i := .iadd) (f := fun x y => x + y) (by decide +kernel) rfl) ?_
        refine gm_c_virt (k := 226) (ci := 11) (mj := 260) (ix := 149) (pc := 66) (as := [gm_vi ((15 + (7 * (N 2))) + 1)]) (st := []) (d' := d - 1) (bc' := 0) (bs' := 0) (by decide +kernel) (by decide +kernel) (by decide +kernel) (by decide +kernel) (e0k hE (k := 226) (c := 11) (by decide +kernel)).1 (e0k hE (k := 226) (c := 11) (by decide +kernel)).2 (by decide) (by decide +kernel) (show 1 = gm_na 260 by decide +kernel) (fw_c1 fw_si) (show 2 ≤ gm_ml 260 by decide +kernel) (Nat.le_of_ble_eq_true rfl) (by omega) (Nat.zero_le _) (Nat.zero_le _) ?_
        refine rv_260 (by omega) hE hF (t := (N 0).toNat) ⟨by omega, by omega⟩ (by omega) (by omega) hr30 hp30 rfl hb30 (tr_fr (W := [((226 : Nat), some (9 : Int)), ((226 : Nat), some (11 : Int))]) hT (fr_t fr_0 hf30 (by decide)) (by decide)) (fun p2 M66 g1 g2 g3 g4 g5 g6 g7 => ?_) (fun M66 g1 g2 g3 => ?_)
        · show gm_Wp X LX d _ _ 258 69 _ [gm_vi 1] n K _ _ Q
          have hsp := v_sp_w (f := f) (e := e) _ _ _ _ g7
          refine fw_iftd (cc := .ne) (pc := 69) (off := 5) (by decide +kernel) (by decide) ⟨by decide, by decide⟩ (by decide) ?_
          refine gm_sz (gm_p_load (pc := 74) (i := .aload_n 0) (sr := 2) (j := 0) (by decide +kernel) rfl rfl rfl) ?_
          refine gm_sz (fw_gr (pc := 75) (ix := 13) (ci := 11) (j := 1) (r := 227) (by decide +kernel) (e0k hE (k := 226) (c := 11) (by decide +kernel)) (by decide +kernel) (by decide +kernel) (e0r hE (k := 226) (j := 1) (r := 227) (by decide +kernel))) ?_
          refine gm_sz (gm_p_load (pc := 78) (i := .iload_n 2) (sr := 0) (j := 2) (by decide +kernel) rfl rfl rfl) ?_
          refine gm_sz (gm_p_load (pc := 79) (i := .iload_n 3) (sr := 0) (j := 3) (by decide +kernel) rfl rfl rfl) ?_
          refine gm_sz (fw_is (pc := 80) (k := 227) (len := 2093) (e0 := 15 + (7 * (N 2))) (x := (tx_v f e 4 (tx_n f e b))) (M' := gm_uM M66 227 (15 + (7 * (N 2))) (tx_v f e 4 (tx_n f e b))) (by decide +kernel) (e0a hE (k := 227) (q := ((0 : Nat), (2093 : Nat))) (by decide +kernel)).1 (e0a hE (k := 227) (q := ((0 : Nat), (2093 : Nat))) (by decide +kernel)).2 (by decide) ⟨by omega, by omega⟩ rfl) ?_
          refine gm_sz (gm_p_load (pc := 81) (i := .aload_n 0) (sr := 2) (j := 0) (by decide +kernel) rfl rfl rfl) ?_
          refine gm_sz (fw_gr (pc := 82) (ix := 13) (ci := 11) (j := 1) (r := 227) (by decide +kernel) (e0k hE (k := 226) (c := 11) (by decide +kernel)) (by decide +kernel) (by decide +kernel) (e0r hE (k := 226) (j := 1) (r := 227) (by decide +kernel))) ?_
          refine gm_sz (gm_p_const (pc := 85) (i := .iconst 2) (v := gm_vi 2) (by decide +kernel) (by decide +kernel)) ?_
          refine gm_sz (gm_p_dup2 (pc := 86) (by decide +kernel) fw_si fw_sr) ?_
          refine gm_sz (fw_ia (pc := 87) (k := 227) (len := 2093) (e0 := 2) (x := (N 2)) (by decide +kernel) (e0a hE (k := 227) (q := ((0 : Nat), (2093 : Nat))) (by decide +kernel)).1 (e0a hE (k := 227) (q := ((0 : Nat), (2093 : Nat))) (by decide +kernel)).2 (by decide) ⟨by omega, by omega⟩ ((uM_ne (by omega)).trans ((tr_w g5 (by decide) (by decide) (by decide)).trans (hsp.1 2 (by omega))))) ?_
          refine gm_sz (gm_p_const (pc := 88) (i := .iconst 1) (v := gm_vi 1) (by decide +kernel) (by decide +kernel)) ?_
          refine gm_sz (gm_p_bin (pc := 89) (i := .iadd) (f := fun x y => x + y) (by decide +kernel) rfl) ?_
          refine gm_sz (fw_is (pc := 90) (k := 227) (len := 2093) (e0 := 2) (x := (N 2) + 1) (M' := gm_uM (gm_uM M66 227 (15 + (7 * (N 2))) (tx_v f e 4 (tx_n f e b))) 227 2 ((N 2) + 1)) (by decide +kernel) (e0a hE (k := 227) (q := ((0 : Nat), (2093 : Nat))) (by decide +kernel)).1 (e0a hE (k := 227) (q := ((0 : Nat), (2093 : Nat))) (by decide +kernel)).2 (by decide) ⟨by omega, by omega⟩ rfl) ?_
          refine gm_sz (gm_p_const (pc := 91) (i := .iconst 1) (v := gm_vi 1) (by decide +kernel) (by decide +kernel)) ?_
          have ev : v_section f e N b = ((v_sp f e (N 0).toNat N ((15 + (7 * (N 2))) + 1) (tx_n f e (tx_n f e b))).1, (v_sp f e (N 0).toNat N ((15 + (7 * (N 2))) + 1) (tx_n f e (tx_n f e b))).2.1, (nup (nup (v_sp f e (N 0).toNat N ((15 + (7 * (N 2))) + 1) (tx_n f e (tx_n f e b))).2.2 (15 + ((N 2) * 7 + 0)) (tx_v f e 4 (tx_n f e b))) 2 (N 2 + 1))) := by
            unfold v_section
            rw [tif_f h10, tif_t (by rw [if_pos h24, if_pos h24]; exact h30), show (15 : Int) + (N 2 * 7 + (1 + 0)) = 15 + 7 * N 2 + 1 by omega, v_sp_c _ _ _ _ (by omega), v_sp_c _ _ _ _ (by omega)]
            dsimp only
            rw [nup_c (by omega)]
          rw [ev] at q1 q0
          exact gm_r_int (pc := 92) (by decide +kernel) (Or.inr ⟨(by decide +kernel), Or.inr rfl⟩) (q1 p2 _ (fr_p (fr_p (fr_t (fr_t fr_0 hf30 (by decide)) g1 (by decide)) (Or.inl (by decide))) (Or.inl (by decide))) (rw_fr (W := [((227 : Nat), none), ((227 : Nat), some (2 : Int))]) g2 (fr_p (fr_p fr_0 (Or.inl (by decide))) (Or.inl (by decide))) (by decide)) g3 g4 (tr_ws (W := [((226 : Nat), some (9 : Int)), ((226 : Nat), some (11 : Int)), ((227 : Nat), none)]) hT ((ws_um (((ws_um (g5.1) ⟨by omega, by omega, by omega⟩).trans (congrArg (fun z9 => nup (v_sp f e (N 0).toNat N ((15 + (7 * (N 2))) + 1) (tx_n f e (tx_n f e b))).2.2 z9 (tx_v f e 4 (tx_n f e b))) (show 15 + (7 * (N 2)) = (15 + ((N 2) * 7 + 0)) by omega)))) ⟨by omega, by omega, by omega⟩)) (fr_p (fr_p (fr_t (fr_t fr_0 hf30 (by decide)) g1 (by decide)) (Or.inl (by decide))) (Or.inl (by decide))) (by decide)) ⟨fun j hj => ((uM_ne (by omega)).trans ((uM_ne (by omega)).trans ((g6.1 j hj).trans (fr_c hf30 (by decide))))), ((uM_ne (by omega)).trans ((uM_ne (by omega)).trans ((g6.2).trans (fr_c hf30 (by decide)))))⟩ g7)
        · show gm_Wp X LX d _ _ 258 69 _ [gm_vi 0] n K _ _ Q
          refine fw_iffd (cc := .ne) (pc := 69) (off := 5) (by decide +kernel) (by decide) ⟨by decide, by decide⟩ (by decide) ?_
          refine gm_sz (gm_p_const (pc := 72) (i := .iconst 0) (v := gm_vi 0) (by decide +kernel) (by decide +kernel)) ?_
          have ev : v_section f e N b = ((v_sp f e (N 0).toNat N ((15 + (7 * (N 2))) + 1) (tx_n f e (tx_n f e b))).1, (v_sp f e (N 0).toNat N ((15 + (7 * (N 2))) + 1) (tx_n f e (tx_n f e b))).2.1, (nup (nup (v_sp f e (N 0).toNat N ((15 + (7 * (N 2))) + 1) (tx_n f e (tx_n f e b))).2.2 (15 + (N 2 * 7 + 0)) (tx_v f e 4 (tx_n f e b))) 2 (N 2 + 1))) := by
            unfold v_section
            rw [tif_f h10, tif_t (by rw [if_pos h24, if_pos h24]; exact h30), show (15 : Int) + (N 2 * 7 + (1 + 0)) = 15 + 7 * N 2 + 1 by omega, v_sp_c _ _ _ _ (by omega), v_sp_c _ _ _ _ (by omega)]
            dsimp only
            rw [nup_c (by omega)]
          rw [ev] at q1 q0
          exact gm_r_int (pc := 73) (by decide +kernel) (Or.inr ⟨(by decide +kernel), Or.inl rfl⟩) (q0 _ (fr_t (fr_t fr_0 hf30 (by decide)) g1 (by decide)) g2 g3)
      · show gm_Wp X LX d _ _ 258 33 _ [gm_vi (-1)] n K _ _ Q
        have h30 : ¬ vn f e 0 0 (tx_n f e b) := h30
        refine gm_sz (gm_p_goto (pc := 33) (off := 24) (by decide +kernel) (by decide)) ?_
        refine gm_sz (gm_p_stor (pc := 57) (i := .istore_n 3) (sr := 0) (j := 3) (by decide +kernel) rfl (show 4 ≤ _ from Nat.le_of_ble_eq_true rfl) rfl) ?_
        refine gm_sz (gm_p_load (pc := 58) (i := .iload_n 3) (sr := 0) (j := 3) (by decide +kernel) rfl rfl rfl) ?_
        refine fw_iftd (cc := .lt) (pc := 59) (off := 13) (by decide +kernel) (by decide) ⟨by decide, by decide⟩ (by decide) ?_
        refine gm_sz (gm_p_const (pc := 72) (i := .iconst 0) (v := gm_vi 0) (by decide +kernel) (by decide +kernel)) ?_
        have ev : v_section f e N b = (false, (tx_n f e b), N) := by
          unfold v_section
          rw [tif_f h10, tif_f (by rw [if_pos h24, if_pos h24]; exact h30)]
          first | done | rfl
        rw [ev] at q0
        exact gm_r_int (pc := 73) (by decide +kernel) (Or.inr ⟨(by decide +kernel), Or.inl rfl⟩) (q0 _ (fr_t fr_0 hf30 (by decide)) h11_30 (fun h => by cases h))
  · have h10 : (N 2) = 8 := Classical.not_not.mp h10
    refine gm_sz (gm_p_const (pc := 13) (i := .iconst 0) (v := gm_vi 0) (by decide +kernel) (by decide +kernel)) ?_
    have ev : v_section f e N b = (false, b, N) := by
      unfold v_section
      rw [tif_t h10]
      first | done | rfl
    rw [ev] at q0
    exact gm_r_int (pc := 14) (by decide +kernel) (Or.inr ⟨(by decide +kernel), Or.inl rfl⟩) (q0 _ fr_0 hbg (fun h => by cases h))
theorem rv_273 (hd : 8 ≤ d) (hE : E0 n K R) (hF : VF f e) (hR : RW f e (tx_s f e b) M) (hbg : M 226 11 = b) (hb : 0 ≤ b ∧ b ≤ e) (hT : TR N h M) (hN : NR N) (q1 : ∀ (p2 : Int) M2, fr [((226 : Nat), some (9 : Int)), ((226 : Nat), some (11 : Int)), ((227 : Nat), none)] M M2 → RW f e p2 M2 → 0 ≤ p2 ∧ p2 ≤ e → tx_g f e p2 = (v_table f e N b).2.1 → TR (v_table f e N b).2.2 h M2 → BW M M2 → (v_table f e N b).1 = true → Q (.inl (some (gm_vi 1))) n K R M2) (q0 : ∀ M2, fr [((226 : Nat), some (9 : Int)), ((226 : Nat), some (11 : Int)), ((227 : Nat), none)] M M2 → M2 226 11 = (v_table f e N b).2.1 → ¬ (v_table f e N b).1 = true → Q (.inl (some (gm_vi 0))) n K R M2) : gm_Wp X LX d bc bs 273 0 (gm_ent 273 [gm_vr 226]) [] n K R M Q := by
  obtain ⟨⟨⟨a0, b0⟩, ⟨a1, b1⟩, ⟨a10, b10⟩, ⟨a11, b11⟩, ⟨a12, b12⟩, a9, b9⟩, ⟨⟨a2, b2⟩, ⟨a5, b5⟩, ⟨a3, b3⟩, ⟨a4, b4⟩, ⟨a6, b6⟩, ⟨a14, b14⟩, ⟨a7, b7⟩, a13, b13⟩, rF, rP, rL⟩ := id hN
  have sb9 := tx_sb (f := f) (e := e) (b := b) hb.2
  have nb9 := tx_nb (f := f) (e := e) (b := b) hb.2
  have hp9 : 0 ≤ tx_s f e b ∧ tx_s f e b ≤ e := ⟨by have := hb.1; omega, sb9.2.1⟩
  have hb9 : 0 ≤ tx_n f e b ∧ tx_n f e b ≤ e := ⟨by have := hb.1; omega, nb9.2.1⟩
  refine gm_sz (gm_p_load (pc := 0) (i := .aload_n 0) (sr := 2) (j := 0) (by decide +kernel) rfl rfl rfl) ?_
  refine gm_sz (fw_gr (pc := 1) (ix := 13) (ci := 11) (j := 1) (r := 227) (by decide +kernel) (e0k hE (k := 226) (c := 11) (by decide +kernel)) (by decide +kernel) (by decide +kernel) (e0r hE (k := 226) (j := 1) (r := 227) (by decide +kernel))) ?_
  refine gm_sz (gm_p_const (pc := 4) (i := .bipush 6) (v := gm_vi 6) (by decide +kernel) (by decide +kernel)) ?_
  refine gm_sz (fw_ia (pc := 6) (k := 227) (len := 2093) (e0 := 6) (x := N 6) (by decide +kernel) (e0a hE (k := 227) (q := ((0 : Nat), (2093 : Nat))) (by decide +kernel)).1 (e0a hE (k := 227) (q := ((0 : Nat), (2093 : Nat))) (by decide +kernel)).2 (by decide) ⟨by omega, by omega⟩ (tr_w hT (by decide) (by decide) (by decide))) ?_
  refine gm_sz (gm_p_stor (pc := 7) (i := .istore_n 1) (sr := 0) (j := 1) (by decide +kernel) rfl (show 2 ≤ _ from Nat.le_of_ble_eq_true rfl) rfl) ?_
  refine gm_sz (gm_p_load (pc := 8) (i := .iload_n 1) (sr := 0) (j := 1) (by decide +kernel) rfl rfl rfl) ?_
  refine gm_sz (gm_p_const (pc := 9) (i := .bipush 6) (v := gm_vi 6) (by decide +kernel) (by decide +kernel)) ?_
  refine fw_ic (cc := .eq) (pc := 11) (off := 18) (by decide +kernel) (by decide) ⟨by omega, by omega⟩ ⟨by decide, by decide⟩ (fun h11 => ?_) (fun h11 => ?_)
  · have h11 : (N 6) = 6 := h11
    refine gm_sz (gm_p_const (pc := 29) (i := .iconst 0) (v := gm_vi 0) (by decide +kernel) (by decide +kernel)) ?_
    have ev : v_table f e N b = (false, b, N) := by
      unfold v_table
      rw [tif_t h11]
      first | done | rfl
    rw [ev] at q0
    exact gm_r_int (pc := 30) (by decide +kernel) (Or.inr ⟨(by decide +kernel), Or.inl rfl⟩) (q0 _ fr_0 hbg (fun h => by cases h))
  · have h11 : ¬ (N 6) = 6 := h11
    refine gm_sz (gm_p_load (pc := 14) (i := .aload_n 0) (sr := 2) (j := 0) (by decide +kernel) rfl rfl rfl) ?_
    refine gm_sz (gm_p_const (pc := 15) (i := .sipush 287) (v := gm_vi 287) (by decide +kernel) (by decide +kernel)) ?_
    refine gm_sz (gm_p_const (pc := 18) (i := .bipush 6) (v := gm_vi 6) (by decide +kernel) (by decide +kernel)) ?_
    refine gm_sz (gm_p_load (pc := 20) (i := .iload_n 1) (sr := 0) (j := 1) (by decide +kernel) rfl rfl rfl) ?_
    refine gm_sz (gm_p_bin (pc := 21) (i := .imul) (f := fun x y => x * y) (by decide +kernel) rfl) ?_
    refine gm_sz (gm_p_bin (pc := 22) (i := .iadd) (f := fun x y => x + y) (by decide +kernel) rfl) ?_
    refine gm_c_virt (k := 226) (ci := 11) (mj := 260) (ix := 149) (pc := 23) (as := [gm_vi (287 + (6 * (N 6)))]) (st := []) (d' := d - 1) (bc' := 0) (bs' := 0) (by decide +kernel) (by decide +kernel) (by decide +kernel) (by decide +kernel) (e0k hE (k := 226) (c := 11) (by decide +kernel)).1 (e0k hE (k := 226) (c := 11) (by decide +kernel)).2 (by decide) (by decide +kernel) (show 1 = gm_na 260 by decide +kernel) (fw_c1 fw_si) (show 2 ≤ gm_ml 260 by decide +kernel) (Nat.le_of_ble_eq_true rfl) (by omega) (Nat.zero_le _) (Nat.zero_le _) ?_
    refine rv_260 (by omega) hE hF (t := (N 0).toNat) ⟨by omega, by omega⟩ (by omega) (by omega) hR hp9 rfl hb9 hT (fun p2 M23 g1 g2 g3 g4 g5 g6 g7 => ?_) (fun M23 g1 g2 g3 => ?_)
    · show gm_Wp X LX d _ _ 273 26 _ [gm_vi 1] n K _ _ Q
      have hsp := v_sp_w (f := f) (e := e) _ _ _ _ g7
      refine fw_iftd (cc := .ne) (pc := 26) (off := 5) (by decide +kernel) (by decide) ⟨by decide, by decide⟩ (by decide) ?_
      refine gm_sz (gm_p_load (pc := 31) (i := .aload_n 0) (sr := 2) (j := 0) (by decide +kernel) rfl rfl rfl) ?_
      refine gm_sz (fw_gr (pc := 32) (ix := 13) (ci := 11) (j := 1) (r := 227) (by decide +kernel) (e0k hE (k := 226) (c := 11) (by decide +kernel)) (by decide +kernel) (by decide +kernel) (e0r hE (k := 226) (j := 1) (r := 227) (by decide +kernel))) ?_
      refine gm_sz (gm_p_const (pc := 35) (i := .bipush 6) (v := gm_vi 6) (by decide +kernel) (by decide +kernel)) ?_
      refine gm_sz (gm_p_dup2 (pc := 37) (by decide +kernel) fw_si fw_sr) ?_
      refine gm_sz (fw_ia (pc := 38) (k := 227) (len := 2093) (e0 := 6) (x := (N 6)) (by decide +kernel) (e0a hE (k := 227) (q := ((0 : Nat), (2093 : Nat))) (by decide +kernel)).1 (e0a hE (k := 227) (q := ((0 : Nat), (2093 : Nat))) (by decide +kernel)).2 (by decide) ⟨by omega, by omega⟩ ((tr_w g5 (by decide) (by decide) (by decide)).trans (hsp.1 6 (by omega)))) ?_
      refine gm_sz (gm_p_const (pc := 39) (i := .iconst 1) (v := gm_vi 1) (by decide +kernel) (by decide +kernel)) ?_
      refine gm_sz (gm_p_bin (pc := 40) (i := .iadd) (f := fun x y => x + y) (by decide +kernel) rfl) ?_
      refine gm_sz (fw_is (pc := 41) (k := 227) (len := 2093) (e0 := 6) (x := (N 6) + 1) (M' := gm_uM M23 227 6 ((N 6) + 1)) (by decide +kernel) (e0a hE (k := 227) (q := ((0 : Nat), (2093 : Nat))) (by decide +kernel)).1 (e0a hE (k := 227) (q := ((0 : Nat), (2093 : Nat))) (by decide +kernel)).2 (by decide) ⟨by omega, by omega⟩ rfl) ?_
      refine gm_sz (gm_p_const (pc := 42) (i := .iconst 1) (v := gm_vi 1) (by decide +kernel) (by decide +kernel)) ?_
      have ev : v_table f e N b = ((v_sp f e (N 0).toNat N (287 + (6 * (N 6))) (tx_n f e b)).1, (v_sp f e (N 0).toNat N (287 + (6 * (N 6))) (tx_n f e b)).2.1, (nup (v_sp f e (N 0).toNat N (287 + (6 * (N 6))) (tx_n f e b)).2.2 6 (N 6 + 1))) := by
        unfold v_table
        rw [tif_f h11, show (287 : Int) + (N 6 * 6 + (0 + 0)) = 287 + 6 * N 6 by omega, v_sp_c _ _ _ _ (by omega)]
      rw [ev] at q1 q0
      exact gm_r_int (pc := 43) (by decide +kernel) (Or.inr ⟨(by decide +kernel), Or.inr rfl⟩) (q1 p2 _ (fr_p (fr_t fr_0 g1 (by decide)) (Or.inl (by decide))) (rw_fr (W := [((227 : Nat), some (6 : Int))]) g2 (fr_p fr_0 (Or.inr (by decide))) (by decide)) g3 g4 (tr_ws (W := [((226 : Nat), some (9 : Int)), ((226 : Nat), some (11 : Int)), ((227 : Nat), none)]) hT ((ws_um (g5.1) ⟨by omega, by omega, by omega⟩)) (fr_p (fr_t fr_0 g1 (by decide)) (Or.inl (by decide))) (by decide)) ⟨fun j hj => ((uM_ne (by omega)).trans (g6.1 j hj)), ((uM_ne (by omega)).trans g6.2)⟩ g7)
    · show gm_Wp X LX d _ _ 273 26 _ [gm_vi 0] n K _ _ Q
      refine fw_iffd (cc := .ne) (pc := 26) (off := 5) (by decide +kernel) (by decide) ⟨by decide, by decide⟩ (by decide) ?_
      refine gm_sz (gm_p_const (pc := 29) (i := .iconst 0) (v := gm_vi 0) (by decide +kernel) (by decide +kernel)) ?_
      have ev : v_table f e N b = ((v_sp f e (N 0).toNat N (287 + (6 * (N 6))) (tx_n f e b)).1, (v_sp f e (N 0).toNat N (287 + (6 * (N 6))) (tx_n f e b)).2.1, (nup (v_sp f e (N 0).toNat N (287 + (6 * (N 6))) (tx_n f e b)).2.2 6 (N 6 + 1))) := by
        unfold v_table
        rw [tif_f h11, show (287 : Int) + (N 6 * 6 + (0 + 0)) = 287 + 6 * N 6 by omega, v_sp_c _ _ _ _ (by omega)]
      rw [ev] at q1 q0
      exact gm_r_int (pc := 30) (by decide +kernel) (Or.inr ⟨(by decide +kernel), Or.inl rfl⟩) (q0 _ (fr_t fr_0 g1 (by decide)) g2 g3)
theorem rv_249 (hd : 9 ≤ d) (hE : E0 n K R) (hF : VF f e) (hR : RW f e (tx_r (tx_l f) e b) M) (hbg : M 226 11 = b) (hb : 0 ≤ b ∧ b ≤ e) (hT : TR N h M) (hN : NR N) (hS : NS N) (q1 : ∀ (p2 : Int) M2, fr [((226 : Nat), some (9 : Int)), ((226 : Nat), some (11 : Int)), ((227 : Nat), none)] M M2 → RW f e p2 M2 → 0 ≤ p2 ∧ p2 ≤ e → tx_g f e p2 = (v_line f e N b).2.1 → TR (v_line f e N b).2.2 h M2 → BW M M2 → (v_line f e N b).1 = true → Q (.inl (some (gm_vi 1))) n K R M2) (q0 : ∀ M2, fr [((226 : Nat), some (9 : Int)), ((226 : Nat), some (11 : Int)), ((227 : Nat), none)] M M2 → M2 226 11 = (v_line f e N b).2.1 → ¬ (v_line f e N b).1 = true → Q (.inl (some (gm_vi 0))) n K R M2) : gm_Wp X LX d bc bs 249 0 (gm_ent 249 [gm_vr 226]) [] n K R M Q := by
  obtain ⟨⟨⟨a0, b0⟩, ⟨a1, b1⟩, ⟨a10, b10⟩, ⟨a11, b11⟩, ⟨a12, b12⟩, a9, b9⟩, ⟨⟨a2, b2⟩, ⟨a5, b5⟩, ⟨a3, b3⟩, ⟨a4, b4⟩, ⟨a6, b6⟩, ⟨a14, b14⟩, ⟨a7, b7⟩, a13, b13⟩, rF, rP, rL⟩ := id hN
  have hp := (tx_rb (q := tx_l f) (e := e) _ b rfl hb.2)
  refine gm_sz (gm_p_load (pc := 0) (i := .aload_n 0) (sr := 2) (j := 0) (by decide +kernel) rfl rfl rfl) ?_
  refine gm_sz (gm_p_ldcs (pc := 1) (i := .ldc 181) (ix := 181) (id := 47) (by decide +kernel) (Or.inl rfl) (by decide +kernel)) ?_
  refine gm_c_virt (k := 226) (ci := 11) (mj := 250) (ix := 134) (pc := 3) (as := [gm_vo 47]) (st := []) (d' := d - 1) (bc' := 0) (bs' := 0) (by decide +kernel) (by decide +kernel) (by decide +kernel) (by decide +kernel) (e0k hE (k := 226) (c := 11) (by decide +kernel)).1 (e0k hE (k := 226) (c := 11) (by decide +kernel)).2 (by decide) (by decide +kernel) (show 1 = gm_na 250 by decide +kernel) (fw_c1 fw_so) (show 2 ≤ gm_ml 250 by decide +kernel) (Nat.le_of_ble_eq_true rfl) (by omega) (Nat.zero_le _) (Nat.zero_le _) ?_
  refine rv_250 (by omega) hE hF hR hbg (by decide) (show tx_o 47 = wv_lanes by decide +kernel) (by decide) hb (fun h3 => ?_) (fun h3 => ?_)
  · show gm_Wp X LX d _ _ 249 6 _ [gm_vi 1] n K _ _ Q
    have h3 : tx_is f e b wv_lanes := h3
    have sb3 := tx_sb (f := f) (e := e) (b := b) hb.2
    have hb3 := tx_nb (f := f) (e := e) (b := b) hb.2
    have hp3 : 0 ≤ tx_s f e b ∧ tx_s f e b ≤ e := ⟨by have := hb.1; omega, sb3.2.1⟩
    have hb3 : 0 ≤ tx_n f e b ∧ tx_n f e b ≤ e := ⟨by have := hb.1; omega, hb3.2.1⟩
    have hr3 := hR
    rw [← tx_s1 h3] at hr3
    refine fw_iffd (cc := .eq) (pc := 6) (off := 8) (by decide +kernel) (by decide) ⟨by decide, by decide⟩ (by decide) ?_
    refine gm_sz (gm_p_load (pc := 9) (i := .aload_n 0) (sr := 2) (j := 0) (by decide +kernel) rfl rfl rfl) ?_
    refine gm_c_virt (k := 226) (ci := 11) (mj := 251) (ix := 182) (pc := 10) (as := []) (st := []) (d' := d - 1) (bc' := 0) (bs' := 0) (by decide +kernel) (by decide +kernel) (by decide +kernel) (by decide +kernel) (e0k hE (k := 226) (c := 11) (by decide +kernel)).1 (e0k hE (k := 226) (c := 11) (by decide +kernel)).2 (by decide) (by decide +kernel) (show 0 = gm_na 251 by decide +kernel) fw_c0 (show 1 ≤ gm_ml 251 by decide +kernel) (Nat.le_of_ble_eq_true rfl) (by omega) (Nat.zero_le _) (Nat.zero_le _) ?_
    refine rv_251 (by omega) hE hF hr3 hbg hb hT hN (fun p2 M10 g1 g2 g3 g4 g5 g6 g7 => ?_) (fun M10 g1 g2 g3 => ?_)
    · show gm_Wp X LX d _ _ 249 13 _ [gm_vi 1] n K _ _ Q
      have ev : v_line f e N b = v_lanes f e N b := by
        unfold v_line
        rw [tif_t h3]
      rw [ev] at q1 q0
      exact gm_r_int (pc := 13) (by decide +kernel) (Or.inr ⟨(by decide +kernel), Or.inr rfl⟩) (q1 p2 _ g1 g2 g3 g4 g5 g6 g7)
    · show gm_Wp X LX d _ _ 249 13 _ [gm_vi 0] n K _ _ Q
      have ev : v_line f e N b = v_lanes f e N b := by
        unfold v_line
        rw [tif_t h3]
      rw [ev] at q1 q0
      exact gm_r_int (pc := 13) (by decide +kernel) (Or.inr ⟨(by decide +kernel), Or.inl rfl⟩) (q0 _ g1 g2 g3)
  · show gm_Wp X LX d _ _ 249 6 _ [gm_vi 0] n K _ _ Q
    have h3 : ¬ tx_is f e b wv_lanes := h3
    refine fw_iftd (cc := .eq) (pc := 6) (off := 8) (by decide +kernel) (by decide) ⟨by decide, by decide⟩ (by decide) ?_
    refine gm_sz (gm_p_load (pc := 14) (i := .aload_n 0) (sr := 2) (j := 0) (by decide +kernel) rfl rfl rfl) ?_
    refine gm_sz (gm_p_ldcs (pc := 15) (i := .ldc 185) (ix := 185) (id := 48) (by decide +kernel) (Or.inl rfl) (by decide +kernel)) ?_
    refine gm_c_virt (k := 226) (ci := 11) (mj := 250) (ix := 134) (pc := 17) (as := [gm_vo 48]) (st := []) (d' := d - 1) (bc' := 0) (bs' := 0) (by decide +kernel) (by decide +kernel) (by decide +kernel) (by decide +kernel) (e0k hE (k := 226) (c := 11) (by decide +kernel)).1 (e0k hE (k := 226) (c := 11) (by decide +kernel)).2 (by decide) (by decide +kernel) (show 1 = gm_na 250 by decide +kernel) (fw_c1 fw_so) (show 2 ≤ gm_ml 250 by decide +kernel) (Nat.le_of_ble_eq_true rfl) (by omega) (Nat.zero_le _) (Nat.zero_le _) ?_
    refine rv_250 (by omega) hE hF hR hbg (by decide) (show tx_o 48 = wv_last by decide +kernel) (by decide) hb (fun h17 => ?_) (fun h17 => ?_)
    · show gm_Wp X LX d _ _ 249 20 _ [gm_vi 1] n K _ _ Q
      have h17 : tx_is f e b wv_last := h17
      have sb17 := tx_sb (f := f) (e := e) (b := b) hb.2
      have hb17 := tx_nb (f := f) (e := e) (b := b) hb.2
      have hp17 : 0 ≤ tx_s f e b ∧ tx_s f e b ≤ e := ⟨by have := hb.1; omega, sb17.2.1⟩
      have hb17 : 0 ≤ tx_n f e b ∧ tx_n f e b ≤ e := ⟨by have := hb.1; omega, hb17.2.1⟩
      have hr17 := hR
      rw [← tx_s1 h17] at hr17
      refine fw_iffd (cc := .eq) (pc := 20) (off := 8) (by decide +kernel) (by decide) ⟨by decide, by decide⟩ (by decide) ?_
      refine gm_sz (gm_p_load (pc := 23) (i := .aload_n 0) (sr := 2) (j := 0) (by decide +kernel) rfl rfl rfl) ?_
      refine gm_c_virt (k := 226) (ci := 11) (mj := 257) (ix := 187) (pc := 24) (as := []) (st := []) (d' := d - 1) (bc' := 0) (bs' := 0) (by decide +kernel) (by decide +kernel) (by decide +kernel) (by decide +kernel) (e0k hE (k := 226) (c := 11) (by decide +kernel)).1 (e0k hE (k := 226) (c := 11) (by decide +kernel)).2 (by decide) (by decide +kernel) (show 0 = gm_na 257 by decide +kernel) fw_c0 (show 1 ≤ gm_ml 257 by decide +kernel) (Nat.le_of_ble_eq_true rfl) (by omega) (Nat.zero_le _) (Nat.zero_le _) ?_
      refine rv_257 (by omega) hE hF hr17 hbg hb hT hN (fun p2 M24 g1 g2 g3 g4 g5 g6 g7 => ?_) (fun M24 g1 g2 g3 => ?_)
      · show gm_Wp X LX d _ _ 249 27 _ [gm_vi 1] n K _ _ Q
        have ev : v_line f e N b = v_last f e N b := by
          unfold v_line
          rw [tif_f h3, tif_t h17]
        rw [ev] at q1 q0
        exact gm_r_int (pc := 27) (by decide +kernel) (Or.inr ⟨(by decide +kernel), Or.inr rfl⟩) (q1 p2 _ g1 g2 g3 g4 g5 g6 g7)
      · show gm_Wp X LX d _ _ 249 27 _ [gm_vi 0] n K _ _ Q
        have ev : v_line f e N b = v_last f e N b := by
          unfold v_line
          rw [tif_f h3, tif_t h17]
        rw [ev] at q1 q0
        exact gm_r_int (pc := 27) (by decide +kernel) (Or.inr ⟨(by decide +kernel), Or.inl rfl⟩) (q0 _ g1 g2 g3)
    · show gm_Wp X LX d _ _ 249 20 _ [gm_vi 0] n K _ _ Q
      have h17 : ¬ tx_is f e b wv_last := h17
      refine fw_iftd (cc := .eq) (pc := 20) (off := 8) (by decide +kernel) (by decide) ⟨by decide, by decide⟩ (by decide) ?_
      refine gm_sz (gm_p_load (pc := 28) (i := .aload_n 0) (sr := 2) (j := 0) (by decide +kernel) rfl rfl rfl) ?_
      refine gm_sz (gm_p_ldcs (pc := 29) (i := .ldc 190) (ix := 190) (id := 49) (by decide +kernel) (Or.inl rfl) (by decide +kernel)) ?_
      refine gm_c_virt (k := 226) (ci := 11) (mj := 250) (ix := 134) (pc := 31) (as := [gm_vo 49]) (st := []) (d' := d - 1) (bc' := 0) (bs' := 0) (by decide +kernel) (by decide +kernel) (by decide +kernel) (by decide +kernel) (e0k hE (k := 226) (c := 11) (by decide +kernel)).1 (e0k hE (k := 226) (c := 11) (by decide +kernel)).2 (by decide) (by decide +kernel) (show 1 = gm_na 250 by decide +kernel) (fw_c1 fw_so) (show 2 ≤ gm_ml 250 by decide +kernel) (Nat.le_of_ble_eq_true rfl) (by omega) (Nat.zero_le _) (Nat.zero_le _) ?_
      refine rv_250 (by omega) hE hF hR hbg (by decide) (show tx_o 49 = wv_section by decide +kernel) (by decide) hb (fun h31 => ?_) (fun h31 => ?_)
      · show gm_Wp X LX d _ _ 249 34 _ [gm_vi 1] n K _ _ Q
        have h31 : tx_is f e b wv_section := h31
        have sb31 := tx_sb (f := f) (e := e) (b := b) hb.2
        have hb31 := tx_nb (f := f) (e := e) (b := b) hb.2
        have hp31 : 0 ≤ tx_s f e b ∧ tx_s f e b ≤ e := ⟨by have := hb.1; omega, sb31.2.1⟩
        have hb31 : 0 ≤ tx_n f e b ∧ tx_n f e b ≤ e := ⟨by have := hb.1; omega, hb31.2.1⟩
        have hr31 := hR
        rw [← tx_s1 h31] at hr31
        refine fw_iffd (cc := .eq) (pc := 34) (off := 8) (by decide +kernel) (by decide) ⟨by decide, by decide⟩ (by decide) ?_
        refine gm_sz (gm_p_load (pc := 37) (i := .aload_n 0) (sr := 2) (j := 0) (by decide +kernel) rfl rfl rfl) ?_
        refine gm_c_virt (k := 226) (ci := 11) (mj := 258) (ix := 192) (pc := 38) (as := []) (st := []) (d' := d - 1) (bc' := 0) (bs' := 0) (by decide +kernel) (by decide +kernel) (by decide +kernel) (by decide +kernel) (e0k hE (k := 226) (c := 11) (by decide +kernel)).1 (e0k hE (k := 226) (c := 11) (by decide +kernel)).2 (by decide) (by decide +kernel) (show 0 = gm_na 258 by decide +kernel) fw_c0 (show 1 ≤ gm_ml 258 by decide +kernel) (Nat.le_of_ble_eq_true rfl) (by omega) (Nat.zero_le _) (Nat.zero_le _) ?_
        refine rv_258 (by omega) hE hF hr31 hbg hb hT hN hS (fun p2 M38 g1 g2 g3 g4 g5 g6 g7 => ?_) (fun M38 g1 g2 g3 => ?_)
        · show gm_Wp X LX d _ _ 249 41 _ [gm_vi 1] n K _ _ Q
          have ev : v_line f e N b = v_section f e N b := by
            unfold v_line
            rw [tif_f h3, tif_f h17, tif_t h31]
          rw [ev] at q1 q0
          exact gm_r_int (pc := 41) (by decide +kernel) (Or.inr ⟨(by decide +kernel), Or.inr rfl⟩) (q1 p2 _ g1 g2 g3 g4 g5 g6 g7)
        · show gm_Wp X LX d _ _ 249 41 _ [gm_vi 0] n K _ _ Q
          have ev : v_line f e N b = v_section f e N b := by
            unfold v_line
            rw [tif_f h3, tif_f h17, tif_t h31]
          rw [ev] at q1 q0
          exact gm_r_int (pc := 41) (by decide +kernel) (Or.inr ⟨(by decide +kernel), Or.inl rfl⟩) (q0 _ g1 g2 g3)
      · show gm_Wp X LX d _ _ 249 34 _ [gm_vi 0] n K _ _ Q
        have h31 : ¬ tx_is f e b wv_section := h31
        refine fw_iftd (cc := .eq) (pc := 34) (off := 8) (by decide +kernel) (by decide) ⟨by decide, by decide⟩ (by decide) ?_
        refine gm_sz (gm_p_load (pc := 42) (i := .aload_n 0) (sr := 2) (j := 0) (by decide +kernel) rfl rfl rfl) ?_
        refine gm_sz (gm_p_ldcs (pc := 43) (i := .ldc 195) (ix := 195) (id := 50) (by decide +kernel) (Or.inl rfl) (by decide +kernel)) ?_
        refine gm_c_virt (k := 226) (ci := 11) (mj := 250) (ix := 134) (pc := 45) (as := [gm_vo 50]) (st := []) (d' := d - 1) (bc' := 0) (bs' := 0) (by decide +kernel) (by decide +kernel) (by decide +kernel) (by decide +kernel) (e0k hE (k := 226) (c := 11) (by decide +kernel)).1 (e0k hE (k := 226) (c := 11) (by decide +kernel)).2 (by decide) (by decide +kernel) (show 1 = gm_na 250 by decide +kernel) (fw_c1 fw_so) (show 2 ≤ gm_ml 250 by decide +kernel) (Nat.le_of_ble_eq_true rfl) (by omega) (Nat.zero_le _) (Nat.zero_le _) ?_
        refine rv_250 (by omega) hE hF hR hbg (by decide) (show tx_o 50 = wv_snow by decide +kernel) (by decide) hb (fun h45 => ?_) (fun h45 => ?_)
        · show gm_Wp X LX d _ _ 249 48 _ [gm_vi 1] n K _ _ Q
          have h45 : tx_is f e b wv_snow := h45
          have sb45 := tx_sb (f := f) (e := e) (b := b) hb.2
          have hb45 := tx_nb (f := f) (e := e) (b := b) hb.2
          have hp45 : 0 ≤ tx_s f e b ∧ tx_s f e b ≤ e := ⟨by have := hb.1; omega, sb45.2.1⟩
          have hb45 : 0 ≤ tx_n f e b ∧ tx_n f e b ≤ e := ⟨by have := hb.1; omega, hb45.2.1⟩
          have hr45 := hR
          rw [← tx_s1 h45] at hr45
          refine fw_iffd (cc := .eq) (pc := 48) (off := 8) (by decide +kernel) (by decide) ⟨by decide, by decide⟩ (by decide) ?_
          refine gm_sz (gm_p_load (pc := 51) (i := .aload_n 0) (sr := 2) (j := 0) (by decide +kernel) rfl rfl rfl) ?_
          refine gm_c_virt (k := 226) (ci := 11) (mj := 262) (ix := 197) (pc := 52) (as := []) (st := []) (d' := d - 1) (bc' := 0) (bs' := 0) (by decide +kernel) (by decide +kernel) (by decide +kernel) (by decide +kernel) (e0k hE (k := 226) (c := 11) (by decide +kernel)).1 (e0k hE (k := 226) (c := 11) (by decide +kernel)).2 (by decide) (by decide +kernel) (show 0 = gm_na 262 by decide +kernel) fw_c0 (show 1 ≤ gm_ml 262 by decide +kernel) (Nat.le_of_ble_eq_true rfl) (by omega) (Nat.zero_le _) (Nat.zero_le _) ?_
          refine rv_262 (by omega) hE hF hr45 hbg hb hT hN (fun p2 M52 g1 g2 g3 g4 g5 g6 g7 => ?_) (fun M52 g1 g2 g3 => ?_)
          · show gm_Wp X LX d _ _ 249 55 _ [gm_vi 1] n K _ _ Q
            have ev : v_line f e N b = v_snow f e N b := by
              unfold v_line
              rw [tif_f h3, tif_f h17, tif_f h31, tif_t h45]
            rw [ev] at q1 q0
            exact gm_r_int (pc := 55) (by decide +kernel) (Or.inr ⟨(by decide +kernel), Or.inr rfl⟩) (q1 p2 _ g1 g2 g3 g4 g5 g6 g7)
          · show gm_Wp X LX d _ _ 249 55 _ [gm_vi 0] n K _ _ Q
            have ev : v_line f e N b = v_snow f e N b := by
              unfold v_line
              rw [tif_f h3, tif_f h17, tif_f h31, tif_t h45]
            rw [ev] at q1 q0
            exact gm_r_int (pc := 55) (by decide +kernel) (Or.inr ⟨(by decide +kernel), Or.inl rfl⟩) (q0 _ g1 g2 g3)
        · show gm_Wp X LX d _ _ 249 48 _ [gm_vi 0] n K _ _ Q
          have h45 : ¬ tx_is f e b wv_snow := h45
          refine fw_iftd (cc := .eq) (pc := 48) (off := 8) (by decide +kernel) (by decide) ⟨by decide, by decide⟩ (by decide) ?_
          refine gm_sz (gm_p_load (pc := 56) (i := .aload_n 0) (sr := 2) (j := 0) (by decide +kernel) rfl rfl rfl) ?_
          refine gm_sz (gm_p_ldcs (pc := 57) (i := .ldc 200) (ix := 200) (id := 52) (by decide +kernel) (Or.inl rfl) (by decide +kernel)) ?_
          refine gm_c_virt (k := 226) (ci := 11) (mj := 250) (ix := 134) (pc := 59) (as := [gm_vo 52]) (st := []) (d' := d - 1) (bc' := 0) (bs' := 0) (by decide +kernel) (by decide +kernel) (by decide +kernel) (by decide +kernel) (e0k hE (k := 226) (c := 11) (by decide +kernel)).1 (e0k hE (k := 226) (c := 11) (by decide +kernel)).2 (by decide) (by decide +kernel) (show 1 = gm_na 250 by decide +kernel) (fw_c1 fw_so) (show 2 ≤ gm_ml 250 by decide +kernel) (Nat.le_of_ble_eq_true rfl) (by omega) (Nat.zero_le _) (Nat.zero_le _) ?_
          refine rv_250 (by omega) hE hF hR hbg (by decide) (show tx_o 52 = wv_flood by decide +kernel) (by decide) hb (fun h59 => ?_) (fun h59 => ?_)
          · show gm_Wp X LX d _ _ 249 62 _ [gm_vi 1] n K _ _ Q
            have h59 : tx_is f e b wv_flood := h59
            have sb59 := tx_sb (f := f) (e := e) (b := b) hb.2
            have hb59 := tx_nb (f := f) (e := e) (b := b) hb.2
            have hp59 : 0 ≤ tx_s f e b ∧ tx_s f e b ≤ e := ⟨by have := hb.1; omega, sb59.2.1⟩
            have hb59 : 0 ≤ tx_n f e b ∧ tx_n f e b ≤ e := ⟨by have := hb.1; omega, hb59.2.1⟩
            have hr59 := hR
            rw [← tx_s1 h59] at hr59
            refine fw_iffd (cc := .eq) (pc := 62) (off := 8) (by decide +kernel) (by decide) ⟨by decide, by decide⟩ (by decide) ?_
            refine gm_sz (gm_p_load (pc := 65) (i := .aload_n 0) (sr := 2) (j := 0) (by decide +kernel) rfl rfl rfl) ?_
            refine gm_c_virt (k := 226) (ci := 11) (mj := 265) (ix := 202) (pc := 66) (as := []) (st := []) (d' := d - 1) (bc' := 0) (bs' := 0) (by decide +kernel) (by decide +kernel) (by decide +kernel) (by decide +kernel) (e0k hE (k := 226) (c := 11) (by decide +kernel)).1 (e0k hE (k := 226) (c := 11) (by decide +kernel)).2 (by decide) (by decide +kernel) (show 0 = gm_na 265 by decide +kernel) fw_c0 (show 1 ≤ gm_ml 265 by decide +kernel) (Nat.le_of_ble_eq_true rfl) (by omega) (Nat.zero_le _) (Nat.zero_le _) ?_
            refine rv_265 (by omega) hE hF hr59 hbg hb hT hN (fun p2 M66 g1 g2 g3 g4 g5 g6 g7 => ?_) (fun M66 g1 g2 g3 => ?_)
            · show gm_Wp X LX d _ _ 249 69 _ [gm_vi 1] n K _ _ Q
              have ev : v_line f e N b = v_flood f e N b := by
                unfold v_line
                rw [tif_f h3, tif_f h17, tif_f h31, tif_f h45, tif_f (show ¬ tx_is f e b wv_stripe from g_ex h59 (by decide)), tif_f (show ¬ tx_is f e b wv_seed from g_ex h59 (by decide)), tif_t h59]
              rw [ev] at q1 q0
              exact gm_r_int (pc := 69) (by decide +kernel) (Or.inr ⟨(by decide +kernel), Or.inr rfl⟩) (q1 p2 _ g1 g2 g3 g4 g5 g6 g7)
            · show gm_Wp X LX d _ _ 249 69 _ [gm_vi 0] n K _ _ Q
              have ev : v_line f e N b = v_flood f e N b := by
                unfold v_line
                rw [tif_f h3, tif_f h17, tif_f h31, tif_f h45, tif_f (show ¬ tx_is f e b wv_stripe from g_ex h59 (by decide)), tif_f (show ¬ tx_is f e b wv_seed from g_ex h59 (by decide)), tif_t h59]
              rw [ev] at q1 q0
              exact gm_r_int (pc := 69) (by decide +kernel) (Or.inr ⟨(by decide +kernel), Or.inl rfl⟩) (q0 _ g1 g2 g3)
          · show gm_Wp X LX d _ _ 249 62 _ [gm_vi 0] n K _ _ Q
            have h59 : ¬ tx_is f e b wv_flood := h59
            refine fw_iftd (cc := .eq) (pc := 62) (off := 8) (by decide +kernel) (by decide) ⟨by decide, by decide⟩ (by decide) ?_
            refine gm_sz (gm_p_load (pc := 70) (i := .aload_n 0) (sr := 2) (j := 0) (by decide +kernel) rfl rfl rfl) ?_
            refine gm_sz (gm_p_ldcs (pc := 71) (i := .ldc 205) (ix := 205) (id := 53) (by decide +kernel) (Or.inl rfl) (by decide +kernel)) ?_
            refine gm_c_virt (k := 226) (ci := 11) (mj := 250) (ix := 134) (pc := 73) (as := [gm_vo 53]) (st := []) (d' := d - 1) (bc' := 0) (bs' := 0) (by decide +kernel) (by decide +kernel) (by decide +kernel) (by decide +kernel) (e0k hE (k := 226) (c := 11) (by decide +kernel)).1 (e0k hE (k := 226) (c := 11) (by decide +kernel)).2 (by decide) (by decide +kernel) (show 1 = gm_na 250 by decide +kernel) (fw_c1 fw_so) (show 2 ≤ gm_ml 250 by decide +kernel) (Nat.le_of_ble_eq_true rfl) (by omega) (Nat.zero_le _) (Nat.zero_le _) ?_
            refine rv_250 (by omega) hE hF hR hbg (by decide) (show tx_o 53 = wv_person by decide +kernel) (by decide) hb (fun h73 => ?_) (fun h73 => ?_)
            · show gm_Wp X LX d _ _ 249 76 _ [gm_vi 1] n K _ _ Q
              have h73 : tx_is f e b wv_person := h73
              have sb73 := tx_sb (f := f) (e := e) (b := b) hb.2
              have hb73 := tx_nb (f := f) (e := e) (b := b) hb.2
              have hp73 : 0 ≤ tx_s f e b ∧ tx_s f e b ≤ e := ⟨by have := hb.1; omega, sb73.2.1⟩
              have hb73 : 0 ≤ tx_n f e b ∧ tx_n f e b ≤ e := ⟨by have := hb.1; omega, hb73.2.1⟩
              have hr73 := hR
              rw [← tx_s1 h73] at hr73
              refine fw_iffd (cc := .eq) (pc := 76) (off := 8) (by decide +kernel) (by decide) ⟨by decide, by decide⟩ (by decide) ?_
              refine gm_sz (gm_p_load (pc := 79) (i := .aload_n 0) (sr := 2) (j := 0) (by decide +kernel) rfl rfl rfl) ?_
              refine gm_c_virt (k := 226) (ci := 11) (mj := 267) (ix := 207) (pc := 80) (as := []) (st := []) (d' := d - 1) (bc' := 0) (bs' := 0) (by decide +kernel) (by decide +kernel) (by decide +kernel) (by decide +kernel) (e0k hE (k := 226) (c := 11) (by decide +kernel)).1 (e0k hE (k := 226) (c := 11) (by decide +kernel)).2 (by decide) (by decide +kernel) (show 0 = gm_na 267 by decide +kernel) fw_c0 (show 1 ≤ gm_ml 267 by decide +kernel) (Nat.le_of_ble_eq_true rfl) (by omega) (Nat.zero_le _) (Nat.zero_le _) ?_
              refine rv_267 (by omega) hE hF hr73 hbg hb hT hN (fun p2 M80 g1 g2 g3 g4 g5 g6 g7 => ?_) (fun M80 g1 g2 g3 => ?_)
              · show gm_Wp X LX d _ _ 249 83 _ [gm_vi 1] n K _ _ Q
                have ev : v_line f e N b = v_person f e N b := by
                  unfold v_line
                  rw [tif_f h3, tif_f h17, tif_f h31, tif_f h45, tif_f (show ¬ tx_is f e b wv_stripe from g_ex h73 (by decide)), tif_f (show ¬ tx_is f e b wv_seed from g_ex h73 (by decide)), tif_f h59, tif_t h73]
                rw [ev] at q1 q0
                exact gm_r_int (pc := 83) (by decide +kernel) (Or.inr ⟨(by decide +kernel), Or.inr rfl⟩) (q1 p2 _ g1 g2 g3 g4 g5 g6 g7)
              · show gm_Wp X LX d _ _ 249 83 _ [gm_vi 0] n K _ _ Q
                have ev : v_line f e N b = v_person f e N b := by
                  unfold v_line
                  rw [tif_f h3, tif_f h17, tif_f h31, tif_f h45, tif_f (show ¬ tx_is f e b wv_stripe from g_ex h73 (by decide)), tif_f (show ¬ tx_is f e b wv_seed from g_ex h73 (by decide)), tif_f h59, tif_t h73]
                rw [ev] at q1 q0
                exact gm_r_int (pc := 83) (by decide +kernel) (Or.inr ⟨(by decide +kernel), Or.inl rfl⟩) (q0 _ g1 g2 g3)
            · show gm_Wp X LX d _ _ 249 76 _ [gm_vi 0] n K _ _ Q
              have h73 : ¬ tx_is f e b wv_person := h73
              refine fw_iftd (cc := .eq) (pc := 76) (off := 8) (by decide +kernel) (by decide) ⟨by decide, by decide⟩ (by decide) ?_
              refine gm_sz (gm_p_load (pc := 84) (i := .aload_n 0) (sr := 2) (j := 0) (by decide +kernel) rfl rfl rfl) ?_
              refine gm_sz (gm_p_ldcs (pc := 85) (i := .ldc 210) (ix := 210) (id := 55) (by decide +kernel) (Or.inl rfl) (by decide +kernel)) ?_
              refine gm_c_virt (k := 226) (ci := 11) (mj := 250) (ix := 134) (pc := 87) (as := [gm_vo 55]) (st := []) (d' := d - 1) (bc' := 0) (bs' := 0) (by decide +kernel) (by decide +kernel) (by decide +kernel) (by decide +kernel) (e0k hE (k := 226) (c := 11) (by decide +kernel)).1 (e0k hE (k := 226) (c := 11) (by decide +kernel)).2 (by decide) (by decide +kernel) (show 1 = gm_na 250 by decide +kernel) (fw_c1 fw_so) (show 2 ≤ gm_ml 250 by decide +kernel) (Nat.le_of_ble_eq_true rfl) (by omega) (Nat.zero_le _) (Nat.zero_le _) ?_
              refine rv_250 (by omega) hE hF hR hbg (by decide) (show tx_o 55 = wv_rock by decide +kernel) (by decide) hb (fun h87 => ?_) (fun h87 => ?_)
              · show gm_Wp X LX d _ _ 249 90 _ [gm_vi 1] n K _ _ Q
                have h87 : tx_is f e b wv_rock := h87
                have sb87 := tx_sb (f := f) (e := e) (b := b) hb.2
                have hb87 := tx_nb (f := f) (e := e) (b := b) hb.2
                have hp87 : 0 ≤ tx_s f e b ∧ tx_s f e b ≤ e := ⟨by have := hb.1; omega, sb87.2.1⟩
                have hb87 : 0 ≤ tx_n f e b ∧ tx_n f e b ≤ e := ⟨by have := hb.1; omega, hb87.2.1⟩
                have hr87 := hR
                rw [← tx_s1 h87] at hr87
                refine fw_iffd (cc := .eq) (pc := 90) (off := 8) (by decide +kernel) (by decide) ⟨by decide, by decide⟩ (by decide) ?_
                refine gm_sz (gm_p_load (pc := 93) (i := .aload_n 0) (sr := 2) (j := 0) (by decide +kernel) rfl rfl rfl) ?_
                refine gm_c_virt (k := 226) (ci := 11) (mj := 270) (ix := 212) (pc := 94) (as := []) (st := []) (d' := d - 1) (bc' := 0) (bs' := 0) (by decide +kernel) (by decide +kernel) (by decide +kernel) (by decide +kernel) (e0k hE (k := 226) (c := 11) (by decide +kernel)).1 (e0k hE (k := 226) (c := 11) (by decide +kernel)).2 (by decide) (by decide +kernel) (show 0 = gm_na 270 by decide +kernel) fw_c0 (show 1 ≤ gm_ml 270 by decide +kernel) (Nat.le_of_ble_eq_true rfl) (by omega) (Nat.zero_le _) (Nat.zero_le _) ?_
                refine rv_270 (by omega) hE hF hr87 hbg hb hT hN (fun p2 M94 g1 g2 g3 g4 g5 g6 g7 => ?_) (fun M94 g1 g2 g3 => ?_)
                · show gm_Wp X LX d _ _ 249 97 _ [gm_vi 1] n K _ _ Q
                  have ev : v_line f e N b = v_rock f e N b := by
                    unfold v_line
                    rw [tif_f h3, tif_f h17, tif_f h31, tif_f h45, tif_f (show ¬ tx_is f e b wv_stripe from g_ex h87 (by decide)), tif_f (show ¬ tx_is f e b wv_seed from g_ex h87 (by decide)), tif_f h59, tif_f h73, tif_t h87]
                  rw [ev] at q1 q0
                  exact gm_r_int (pc := 97) (by decide +kernel) (Or.inr ⟨(by decide +kernel), Or.inr rfl⟩) (q1 p2 _ g1 g2 g3 g4 g5 g6 g7)
                · show gm_Wp X LX d _ _ 249 97 _ [gm_vi 0] n K _ _ Q
                  have ev : v_line f e N b = v_rock f e N b := by
                    unfold v_line
                    rw [tif_f h3, tif_f h17, tif_f h31, tif_f h45, tif_f (show ¬ tx_is f e b wv_stripe from g_ex h87 (by decide)), tif_f (show ¬ tx_is f e b wv_seed from g_ex h87 (by decide)), tif_f h59, tif_f h73, tif_t h87]
                  rw [ev] at q1 q0
                  exact gm_r_int (pc := 97) (by decide +kernel) (Or.inr ⟨(by decide +kernel), Or.inl rfl⟩) (q0 _ g1 g2 g3)
              · show gm_Wp X LX d _ _ 249 90 _ [gm_vi 0] n K _ _ Q
                have h87 : ¬ tx_is f e b wv_rock := h87
                refine fw_iftd (cc := .eq) (pc := 90) (off := 8) (by decide +kernel) (by decide) ⟨by decide, by decide⟩ (by decide) ?_
                refine gm_sz (gm_p_load (pc := 98) (i := .aload_n 0) (sr := 2) (j := 0) (by decide +kernel) rfl rfl rfl) ?_
                refine gm_sz (gm_p_ldcs (pc := 99) (i := .ldc 215) (ix := 215) (id := 56) (by decide +kernel) (Or.inl rfl) (by decide +kernel)) ?_
                refine gm_c_virt (k := 226) (ci := 11) (mj := 250) (ix := 134) (pc := 101) (as := [gm_vo 56]) (st := []) (d' := d - 1) (bc' := 0) (bs' := 0) (by decide +kernel) (by decide +kernel) (by decide +kernel) (by decide +kernel) (e0k hE (k := 226) (c := 11) (by decide +kernel)).1 (e0k hE (k := 226) (c := 11) (by decide +kernel)).2 (by decide) (by decide +kernel) (show 1 = gm_na 250 by decide +kernel) (fw_c1 fw_so) (show 2 ≤ gm_ml 250 by decide +kernel) (Nat.le_of_ble_eq_true rfl) (by omega) (Nat.zero_le _) (Nat.zero_le _) ?_
                refine rv_250 (by omega) hE hF hR hbg (by decide) (show tx_o 56 = wv_table by decide +kernel) (by decide) hb (fun h101 => ?_) (fun h101 => ?_)
                · show gm_Wp X LX d _ _ 249 104 _ [gm_vi 1] n K _ _ Q
                  have h101 : tx_is f e b wv_table := h101
                  have sb101 := tx_sb (f := f) (e := e) (b := b) hb.2
                  have hb101 := tx_nb (f := f) (e := e) (b := b) hb.2
                  have hp101 : 0 ≤ tx_s f e b ∧ tx_s f e b ≤ e := ⟨by have := hb.1; omega, sb101.2.1⟩
                  have hb101 : 0 ≤ tx_n f e b ∧ tx_n f e b ≤ e := ⟨by have := hb.1; omega, hb101.2.1⟩
                  have hr101 := hR
                  rw [← tx_s1 h101] at hr101
                  refine fw_iffd (cc := .eq) (pc := 104) (off := 8) (by decide +kernel) (by decide) ⟨by decide, by decide⟩ (by decide) ?_
                  refine gm_sz (gm_p_load (pc := 107) (i := .aload_n 0) (sr := 2) (j := 0) (by decide +kernel) rfl rfl rfl) ?_
                  refine gm_c_virt (k := 226) (ci := 11) (mj := 273) (ix := 217) (pc := 108) (as := []) (st := []) (d' := d - 1) (bc' := 0) (bs' := 0) (by decide +kernel) (by decide +kernel) (by decide +kernel) (by decide +kernel) (e0k hE (k := 226) (c := 11) (by decide +kernel)).1 (e0k hE (k := 226) (c := 11) (by decide +kernel)).2 (by decide) (by decide +kernel) (show 0 = gm_na 273 by decide +kernel) fw_c0 (show 1 ≤ gm_ml 273 by decide +kernel) (Nat.le_of_ble_eq_true rfl) (by omega) (Nat.zero_le _) (Nat.zero_le _) ?_
                  refine rv_273 (by omega) hE hF hr101 hbg hb hT hN (fun p2 M108 g1 g2 g3 g4 g5 g6 g7 => ?_) (fun M108 g1 g2 g3 => ?_)
                  · show gm_Wp X LX d _ _ 249 111 _ [gm_vi 1] n K _ _ Q
                    have ev : v_line f e N b = v_table f e N b := by
                      unfold v_line
                      rw [tif_f h3, tif_f h17, tif_f h31, tif_f h45, tif_f (show ¬ tx_is f e b wv_stripe from g_ex h101 (by decide)), tif_f (show ¬ tx_is f e b wv_seed from g_ex h101 (by decide)), tif_f h59, tif_f h73, tif_f h87, tif_t h101]
                    rw [ev] at q1 q0
                    exact gm_r_int (pc := 111) (by decide +kernel) (Or.inr ⟨(by decide +kernel), Or.inr rfl⟩) (q1 p2 _ g1 g2 g3 g4 g5 g6 g7)
                  · show gm_Wp X LX d _ _ 249 111 _ [gm_vi 0] n K _ _ Q
                    have ev : v_line f e N b = v_table f e N b := by
                      unfold v_line
                      rw [tif_f h3, tif_f h17, tif_f h31, tif_f h45, tif_f (show ¬ tx_is f e b wv_stripe from g_ex h101 (by decide)), tif_f (show ¬ tx_is f e b wv_seed from g_ex h101 (by decide)), tif_f h59, tif_f h73, tif_f h87, tif_t h101]
                    rw [ev] at q1 q0
                    exact gm_r_int (pc := 111) (by decide +kernel) (Or.inr ⟨(by decide +kernel), Or.inl rfl⟩) (q0 _ g1 g2 g3)
                · show gm_Wp X LX d _ _ 249 104 _ [gm_vi 0] n K _ _ Q
                  have h101 : ¬ tx_is f e b wv_table := h101
                  refine fw_iftd (cc := .eq) (pc := 104) (off := 8) (by decide +kernel) (by decide) ⟨by decide, by decide⟩ (by decide) ?_
                  refine gm_sz (gm_p_load (pc := 112) (i := .aload_n 0) (sr := 2) (j := 0) (by decide +kernel) rfl rfl rfl) ?_
                  refine gm_sz (gm_p_ldcs (pc := 113) (i := .ldc 220) (ix := 220) (id := 57) (by decide +kernel) (Or.inl rfl) (by decide +kernel)) ?_
                  refine gm_c_virt (k := 226) (ci := 11) (mj := 250) (ix := 134) (pc := 115) (as := [gm_vo 57]) (st := []) (d' := d - 1) (bc' := 0) (bs' := 0) (by decide +kernel) (by decide +kernel) (by decide +kernel) (by decide +kernel) (e0k hE (k := 226) (c := 11) (by decide +kernel)).1 (e0k hE (k := 226) (c := 11) (by decide +kernel)).2 (by decide) (by decide +kernel) (show 1 = gm_na 250 by decide +kernel) (fw_c1 fw_so) (show 2 ≤ gm_ml 250 by decide +kernel) (Nat.le_of_ble_eq_true rfl) (by omega) (Nat.zero_le _) (Nat.zero_le _) ?_
                  refine rv_250 (by omega) hE hF hR hbg (by decide) (show tx_o 57 = wv_stripe by decide +kernel) (by decide) hb (fun h115 => ?_) (fun h115 => ?_)
                  · show gm_Wp X LX d _ _ 249 118 _ [gm_vi 1] n K _ _ Q
                    have h115 : tx_is f e b wv_stripe := h115
                    have sb115 := tx_sb (f := f) (e := e) (b := b) hb.2
                    have hb115 := tx_nb (f := f) (e := e) (b := b) hb.2
                    have hp115 : 0 ≤ tx_s f e b ∧ tx_s f e b ≤ e := ⟨by have := hb.1; omega, sb115.2.1⟩
                    have hb115 : 0 ≤ tx_n f e b ∧ tx_n f e b ≤ e := ⟨by have := hb.1; omega, hb115.2.1⟩
                    have hr115 := hR
                    rw [← tx_s1 h115] at hr115
                    refine gm_sz (gm_p_stor (pc := 118) (i := .istore_n 1) (sr := 0) (j := 1) (by decide +kernel) rfl (show 2 ≤ _ from Nat.le_of_ble_eq_true rfl) rfl) ?_
                    refine gm_sz (gm_p_load (pc := 119) (i := .iload_n 1) (sr := 0) (j := 1) (by decide +kernel) rfl rfl rfl) ?_
                    refine fw_iftd (cc := .ne) (pc := 120) (off := 14) (by decide +kernel) (by decide) ⟨by decide, by decide⟩ (by decide) ?_
                    refine gm_sz (gm_p_load (pc := 134) (i := .aload_n 0) (sr := 2) (j := 0) (by decide +kernel) rfl rfl rfl) ?_
                    refine gm_sz (gm_p_const (pc := 135) (i := .iconst 0) (v := gm_vi 0) (by decide +kernel) (by decide +kernel)) ?_
                    refine gm_sz (gm_p_load (pc := 136) (i := .iload_n 1) (sr := 0) (j := 1) (by decide +kernel) rfl rfl rfl) ?_
                    refine fw_iffd (cc := .eq) (pc := 137) (off := 10) (by decide +kernel) (by decide) ⟨by decide, by decide⟩ (by decide) ?_
                    refine gm_sz (gm_p_load (pc := 140) (i := .aload_n 0) (sr := 2) (j := 0) (by decide +kernel) rfl rfl rfl) ?_
                    refine gm_c_virt (k := 226) (ci := 11) (mj := 261) (ix := 86) (pc := 141) (as := []) (st := [gm_vi 0, gm_vr 226]) (d' := d - 1) (bc' := 0) (bs' := 0) (by decide +kernel) (by decide +kernel) (by decide +kernel) (by decide +kernel) (e0k hE (k := 226) (c := 11) (by decide +kernel)).1 (e0k hE (k := 226) (c := 11) (by decide +kernel)).2 (by decide) (by decide +kernel) (show 0 = gm_na 261 by decide +kernel) fw_c0 (show 1 ≤ gm_ml 261 by decide +kernel) (Nat.le_of_ble_eq_true rfl) (by omega) (Nat.zero_le _) (Nat.zero_le _) ?_
                    refine re_lan hE hT hN ?_
                    show gm_Wp X LX d _ _ 249 144 _ [gm_vi (N 0), gm_vi 0, gm_vr 226] n K _ _ Q
                    refine gm_sz (gm_p_goto (pc := 144) (off := 6) (by decide +kernel) (by decide)) ?_
                    refine gm_c_virt (k := 226) (ci := 11) (mj := 255) (ix := 142) (pc := 150) (as := [gm_vi 0, gm_vi (N 0)]) (st := []) (d' := d - 1) (bc' := 0) (bs' := 0) (by decide +kernel) (by decide +kernel) (by decide +kernel) (by decide +kernel) (e0k hE (k := 226) (c := 11) (by decide +kernel)).1 (e0k hE (k := 226) (c := 11) (by decide +kernel)).2 (by decide) (by decide +kernel) (show 2 = gm_na 255 by decide +kernel) (fw_c2 fw_si fw_si) (show 3 ≤ gm_ml 255 by decide +kernel) (Nat.le_of_ble_eq_true rfl) (by omega) (Nat.zero_le _) (Nat.zero_le _) ?_
                    refine rv_255 (by omega) hE hF hr115 hp115 rfl hb115 ⟨by decide, by decide⟩ ⟨by omega, by omega⟩ (fun h150 M150 hf150 hr150 => ?_) (fun h150 M150 hf150 h11_150 => ?_)
                    · show gm_Wp X LX d _ _ 249 153 _ [gm_vi (tx_v f e 4 (tx_n f e b))] n K _ _ Q
                      have h150 : vn f e 0 (N 0) (tx_n f e b) := h150
                      have hv150 : 0 ≤ tx_v f e 4 (tx_n f e b) ∧ tx_v f e 4 (tx_n f e b) ≤ N 0 := h150.2
                      have sb150 := tx_sb (f := f) (e := e) (b := (tx_n f e b)) hb115.2
                      have hb150 := tx_nb (f := f) (e := e) (b := (tx_n f e b)) hb115.2
                      have hp150 : 0 ≤ tx_s f e (tx_n f e b) ∧ tx_s f e (tx_n f e b) ≤ e := ⟨by have := hb115.1; omega, sb150.2.1⟩
                      have hb150 : 0 ≤ tx_n f e (tx_n f e b) ∧ tx_n f e (tx_n f e b) ≤ e := ⟨by have := hb115.1; omega, hb150.2.1⟩
                      refine gm_sz (gm_p_stor (pc := 153) (i := .istore_n 2) (sr := 0) (j := 2) (by decide +kernel) rfl (show 3 ≤ _ from Nat.le_of_ble_eq_true rfl) rfl) ?_
                      refine gm_sz (gm_p_load (pc := 154) (i := .aload_n 0) (sr := 2) (j := 0) (by decide +kernel) rfl rfl rfl) ?_
                      refine gm_sz (fw_gr (pc := 155) (ix := 13) (ci := 11) (j := 1) (r := 227) (by decide +kernel) (e0k hE (k := 226) (c := 11) (by decide +kernel)) (by decide +kernel) (by decide +kernel) (e0r hE (k := 226) (j := 1) (r := 227) (by decide +kernel))) ?_
                      refine gm_sz (gm_p_load (pc := 158) (i := .iload_n 1) (sr := 0) (j := 1) (by decide +kernel) rfl rfl rfl) ?_
                      refine fw_iffd (cc := .eq) (pc := 159) (off := 8) (by decide +kernel) (by decide) ⟨by decide, by decide⟩ (by decide) ?_
                      refine gm_sz (gm_p_const (pc := 162) (i := .bipush 12) (v := gm_vi 12) (by decide +kernel) (by decide +kernel)) ?_
                      refine gm_sz (gm_p_goto (pc := 164) (off := 5) (by decide +kernel) (by decide)) ?_
                      refine gm_sz (gm_p_load (pc := 169) (i := .iload_n 2) (sr := 0) (j := 2) (by decide +kernel) rfl rfl rfl) ?_
                      refine gm_sz (fw_is (pc := 170) (k := 227) (len := 2093) (e0 := 12) (x := (tx_v f e 4 (tx_n f e b))) (M' := gm_uM M150 227 12 (tx_v f e 4 (tx_n f e b))) (by decide +kernel) (e0a hE (k := 227) (q := ((0 : Nat), (2093 : Nat))) (by decide +kernel)).1 (e0a hE (k := 227) (q := ((0 : Nat), (2093 : Nat))) (by decide +kernel)).2 (by decide) ⟨by omega, by omega⟩ rfl) ?_
                      refine gm_sz (gm_p_load (pc := 171) (i := .iload_n 2) (sr := 0) (j := 2) (by decide +kernel) rfl rfl rfl) ?_
                      refine fw_iff (cc := .lt) (pc := 172) (off := 7) (by decide +kernel) (by decide) ⟨by omega, by omega⟩ (show ¬ (tx_v f e 4 (tx_n f e b)) < 0 by omega) ?_
                      refine gm_sz (gm_p_const (pc := 175) (i := .iconst 1) (v := gm_vi 1) (by decide +kernel) (by decide +kernel)) ?_
                      refine gm_sz (gm_p_goto (pc := 176) (off := 4) (by decide +kernel) (by decide)) ?_
                      have ev : v_line f e N b = (true, (tx_n f e (tx_n f e b)), (nup N 12 (tx_v f e 4 (tx_n f e b)))) := by
                        unfold v_line
                        rw [tif_f h3, tif_f h17, tif_f h31, tif_f h45, tif_t h115]
                        unfold v_stripe
                        rw [tif_t h150]
                      rw [ev] at q1
                      exact gm_r_int (pc := 180) (by decide +kernel) (Or.inr ⟨(by decide +kernel), Or.inr rfl⟩) (q1 (tx_s f e (tx_n f e b)) _ (fr_p (fr_t fr_0 hf150 (by decide)) (Or.inl (by decide))) (rw_fr (W := [((227 : Nat), some (12 : Int))]) hr150 (fr_p fr_0 (Or.inr (by decide))) (by decide)) hp150 rfl (tr_ws (W := [((226 : Nat), some (9 : Int)), ((226 : Nat), some (11 : Int)), ((227 : Nat), none)]) hT ((ws_um (((ws_uf hf150 (by decide)).trans (hT.1))) ⟨by omega, by omega, by omega⟩)) (fr_p (fr_t fr_0 hf150 (by decide)) (Or.inl (by decide))) (by decide)) ⟨fun j hj => ((uM_ne (by omega)).trans (fr_c hf150 (by decide))), ((uM_ne (by omega)).trans (fr_c hf150 (by decide)))⟩ rfl)
                    · show gm_Wp X LX d _ _ 249 153 _ [gm_vi (-1)] n K _ _ Q
                      have h150 : ¬ vn f e 0 (N 0) (tx_n f e b) := h150
                      refine gm_sz (gm_p_stor (pc := 153) (i := .istore_n 2) (sr := 0) (j := 2) (by decide +kernel) rfl (show 3 ≤ _ from Nat.le_of_ble_eq_true rfl) rfl) ?_
                      refine gm_sz (gm_p_load (pc := 154) (i := .aload_n 0) (sr := 2) (j := 0) (by decide +kernel) rfl rfl rfl) ?_
                      refine gm_sz (fw_gr (pc := 155) (ix := 13) (ci := 11) (j := 1) (r := 227) (by decide +kernel) (e0k hE (k := 226) (c := 11) (by decide +kernel)) (by decide +kernel) (by decide +kernel) (e0r hE (k := 226) (j := 1) (r := 227) (by decide +kernel))) ?_
                      refine gm_sz (gm_p_load (pc := 158) (i := .iload_n 1) (sr := 0) (j := 1) (by decide +kernel) rfl rfl rfl) ?_
                      refine fw_iffd (cc := .eq) (pc := 159) (off := 8) (by decide +kernel) (by decide) ⟨by decide, by decide⟩ (by decide) ?_
                      refine gm_sz (gm_p_const (pc := 162) (i := .bipush 12) (v := gm_vi 12) (by decide +kernel) (by decide +kernel)) ?_
                      refine gm_sz (gm_p_goto (pc := 164) (off := 5) (by decide +kernel) (by decide)) ?_
                      refine gm_sz (gm_p_load (pc := 169) (i := .iload_n 2) (sr := 0) (j := 2) (by decide +kernel) rfl rfl rfl) ?_
                      refine gm_sz (fw_is (pc := 170) (k := 227) (len := 2093) (e0 := 12) (x := (-1)) (M' := gm_uM M150 227 12 (-1)) (by decide +kernel) (e0a hE (k := 227) (q := ((0 : Nat), (2093 : Nat))) (by decide +kernel)).1 (e0a hE (k := 227) (q := ((0 : Nat), (2093 : Nat))) (by decide +kernel)).2 (by decide) ⟨by omega, by omega⟩ rfl) ?_
                      refine gm_sz (gm_p_load (pc := 171) (i := .iload_n 2) (sr := 0) (j := 2) (by decide +kernel) rfl rfl rfl) ?_
                      refine fw_iftd (cc := .lt) (pc := 172) (off := 7) (by decide +kernel) (by decide) ⟨by decide, by decide⟩ (by decide) ?_
                      refine gm_sz (gm_p_const (pc := 179) (i := .iconst 0) (v := gm_vi 0) (by decide +kernel) (by decide +kernel)) ?_
                      have ev : v_line f e N b = (false, tx_n f e b, N) := by
                        unfold v_line
                        rw [tif_f h3, tif_f h17, tif_f h31, tif_f h45, tif_t h115]
                        unfold v_stripe
                        rw [tif_f h150]
                      rw [ev] at q0
                      exact gm_r_int (pc := 180) (by decide +kernel) (Or.inr ⟨(by decide +kernel), Or.inl rfl⟩) (q0 _ (fr_p (fr_t fr_0 hf150 (by decide)) (Or.inl (by decide))) ((uM_ne (by omega)).trans h11_150) (fun h => by cases h))
                  · show gm_Wp X LX d _ _ 249 118 _ [gm_vi 0] n K _ _ Q
                    have h115 : ¬ tx_is f e b wv_stripe := h115
                    refine gm_sz (gm_p_stor (pc := 118) (i := .istore_n 1) (sr := 0) (j := 1) (by decide +kernel) rfl (show 2 ≤ _ from Nat.le_of_ble_eq_true rfl) rfl) ?_
                    refine gm_sz (gm_p_load (pc := 119) (i := .iload_n 1) (sr := 0) (j := 1) (by decide +kernel) rfl rfl rfl) ?_
                    refine fw_iffd (cc := .ne) (pc := 120) (off := 14) (by decide +kernel) (by decide) ⟨by decide, by decide⟩ (by decide) ?_
                    refine gm_sz (gm_p_load (pc := 123) (i := .aload_n 0) (sr := 2) (j := 0) (by decide +kernel) rfl rfl rfl) ?_
                    refine gm_sz (gm_p_ldcs (pc := 124) (i := .ldc 222) (ix := 222) (id := 58) (by decide +kernel) (Or.inl rfl) (by decide +kernel)) ?_
                    refine gm_c_virt (k := 226) (ci := 11) (mj := 250) (ix := 134) (pc := 126) (as := [gm_vo 58]) (st := []) (d' := d - 1) (bc' := 0) (bs' := 0) (by decide +kernel) (by decide +kernel) (by decide +kernel) (by decide +kernel) (e0k hE (k := 226) (c := 11) (by decide +kernel)).1 (e0k hE (k := 226) (c := 11) (by decide +kernel)).2 (by decide) (by decide +kernel) (show 1 = gm_na 250 by decide +kernel) (fw_c1 fw_so) (show 2 ≤ gm_ml 250 by decide +kernel) (Nat.le_of_ble_eq_true rfl) (by omega) (Nat.zero_le _) (Nat.zero_le _) ?_
                    refine rv_250 (by omega) hE hF hR hbg (by decide) (show tx_o 58 = wv_seed by decide +kernel) (by decide) hb (fun h126 => ?_) (fun h126 => ?_)
                    · show gm_Wp X LX d _ _ 249 129 _ [gm_vi 1] n K _ _ Q
                      have h126 : tx_is f e b wv_seed := h126
                      have sb126 := tx_sb (f := f) (e := e) (b := b) hb.2
                      have hb126 := tx_nb (f := f) (e := e) (b := b) hb.2
                      have hp126 : 0 ≤ tx_s f e b ∧ tx_s f e b ≤ e := ⟨by have := hb.1; omega, sb126.2.1⟩
                      have hb126 : 0 ≤ tx_n f e b ∧ tx_n f e b ≤ e := ⟨by have := hb.1; omega, hb126.2.1⟩
                      have hr126 := hR
                      rw [← tx_s1 h126] at hr126
                      refine fw_iftd (cc := .ne) (pc := 129) (off := 5) (by decide +kernel) (by decide) ⟨by decide, by decide⟩ (by decide) ?_
                      refine gm_sz (gm_p_load (pc := 134) (i := .aload_n 0) (sr := 2) (j := 0) (by decide +kernel) rfl rfl rfl) ?_
                      refine gm_sz (gm_p_const (pc := 135) (i := .iconst 0) (v := gm_vi 0) (by decide +kernel) (by decide +kernel)) ?_
                      refine gm_sz (gm_p_load (pc := 136) (i := .iload_n 1) (sr := 0) (j := 1) (by decide +kernel) rfl rfl rfl) ?_
                      refine fw_iftd (cc := .eq) (pc := 137) (off := 10) (by decide +kernel) (by decide) ⟨by decide, by decide⟩ (by decide) ?_
                      refine gm_sz (gm_p_const (pc := 147) (i := .sipush 9999) (v := gm_vi 9999) (by decide +kernel) (by decide +kernel)) ?_
                      refine gm_c_virt (k := 226) (ci := 11) (mj := 255) (ix := 142) (pc := 150) (as := [gm_vi 0, gm_vi 9999]) (st := []) (d' := d - 1) (bc' := 0) (bs' := 0) (by decide +kernel) (by decide +kernel) (by decide +kernel) (by decide +kernel) (e0k hE (k := 226) (c := 11) (by decide +kernel)).1 (e0k hE (k := 226) (c := 11) (by decide +kernel)).2 (by decide) (by decide +kernel) (show 2 = gm_na 255 by decide +kernel) (fw_c2 fw_si fw_si) (show 3 ≤ gm_ml 255 by decide +kernel) (Nat.le_of_ble_eq_true rfl) (by omega) (Nat.zero_le _) (Nat.zero_le _) ?_
                      refine rv_255 (by omega) hE hF hr126 hp126 rfl hb126 ⟨by decide, by decide⟩ ⟨by decide, by decide⟩ (fun h150 M150 hf150 hr150 => ?_) (fun h150 M150 hf150 h11_150 => ?_)
                      · show gm_Wp X LX d _ _ 249 153 _ [gm_vi (tx_v f e 4 (tx_n f e b))] n K _ _ Q
                        have h150 : vn f e 0 9999 (tx_n f e b) := h150
                        have hv150 : 0 ≤ tx_v f e 4 (tx_n f e b) ∧ tx_v f e 4 (tx_n f e b) ≤ 9999 := h150.2
                        have sb150 := tx_sb (f := f) (e := e) (b := (tx_n f e b)) hb126.2
                        have hb150 := tx_nb (f := f) (e := e) (b := (tx_n f e b)) hb126.2
                        have hp150 : 0 ≤ tx_s f e (tx_n f e b) ∧ tx_s f e (tx_n f e b) ≤ e := ⟨by have := hb126.1; omega, sb150.2.1⟩
                        have hb150 : 0 ≤ tx_n f e (tx_n f e b) ∧ tx_n f e (tx_n f e b) ≤ e := ⟨by have := hb126.1; omega, hb150.2.1⟩
                        refine gm_sz (gm_p_stor (pc := 153) (i := .istore_n 2) (sr := 0) (j := 2) (by decide +kernel) rfl (show 3 ≤ _ from Nat.le_of_ble_eq_true rfl) rfl) ?_
                        refine gm_sz (gm_p_load (pc := 154) (i := .aload_n 0) (sr := 2) (j := 0) (by decide +kernel) rfl rfl rfl) ?_
                        refine gm_sz (fw_gr (pc := 155) (ix := 13) (ci := 11) (j := 1) (r := 227) (by decide +kernel) (e0k hE (k := 226) (c := 11) (by decide +kernel)) (by decide +kernel) (by decide +kernel) (e0r hE (k := 226) (j := 1) (r := 227) (by decide +kernel))) ?_
                        refine gm_sz (gm_p_load (pc := 158) (i := .iload_n 1) (sr := 0) (j := 1) (by decide +kernel) rfl rfl rfl) ?_
                        refine fw_iftd (cc := .eq) (pc := 159) (off := 8) (by decide +kernel) (by decide) ⟨by decide, by decide⟩ (by decide) ?_
                        refine gm_sz (gm_p_const (pc := 167) (i := .bipush 13) (v := gm_vi 13) (by decide +kernel) (by decide +kernel)) ?_
                        refine gm_sz (gm_p_load (pc := 169) (i := .iload_n 2) (sr := 0) (j := 2) (by decide +kernel) rfl rfl rfl) ?_
                        refine gm_sz (fw_is (pc := 170) (k := 227) (len := 2093) (e0 := 13) (x := (tx_v f e 4 (tx_n f e b))) (M' := gm_uM M150 227 13 (tx_v f e 4 (tx_n f e b))) (by decide +kernel) (e0a hE (k := 227) (q := ((0 : Nat), (2093 : Nat))) (by decide +kernel)).1 (e0a hE (k := 227) (q := ((0 : Nat), (2093 : Nat))) (by decide +kernel)).2 (by decide) ⟨by omega, by omega⟩ rfl) ?_
                        refine gm_sz (gm_p_load (pc := 171) (i := .iload_n 2) (sr := 0) (j := 2) (by decide +kernel) rfl rfl rfl) ?_
                        refine fw_iff (cc := .lt) (pc := 172) (off := 7) (by decide +kernel) (by decide) ⟨by omega, by omega⟩ (show ¬ (tx_v f e 4 (tx_n f e b)) < 0 by omega) ?_
                        refine gm_sz (gm_p_const (pc := 175) (i := .iconst 1) (v := gm_vi 1) (by decide +kernel) (by decide +kernel)) ?_
                        refine gm_sz (gm_p_goto (pc := 176) (off := 4) (by decide +kernel) (by decide)) ?_
                        have ev : v_line f e N b = (true, (tx_n f e (tx_n f e b)), (nup N 13 (tx_v f e 4 (tx_n f e b)))) := by
                          unfold v_line
                          rw [tif_f h3, tif_f h17, tif_f h31, tif_f h45, tif_f h115, tif_t h126]
                          unfold v_seed
                          rw [tif_t h150]
                        rw [ev] at q1
                        exact gm_r_int (pc := 180) (by decide +kernel) (Or.inr ⟨(by decide +kernel), Or.inr rfl⟩) (q1 (tx_s f e (tx_n f e b)) _ (fr_p (fr_t fr_0 hf150 (by decide)) (Or.inl (by decide))) (rw_fr (W := [((227 : Nat), some (13 : Int))]) hr150 (fr_p fr_0 (Or.inr (by decide))) (by decide)) hp150 rfl (tr_ws (W := [((226 : Nat), some (9 : Int)), ((226 : Nat), some (11 : Int)), ((227 : Nat), none)]) hT ((ws_um (((ws_uf hf150 (by decide)).trans (hT.1))) ⟨by omega, by omega, by omega⟩)) (fr_p (fr_t fr_0 hf150 (by decide)) (Or.inl (by decide))) (by decide)) ⟨fun j hj => ((uM_ne (by omega)).trans (fr_c hf150 (by decide))), ((uM_ne (by omega)).trans (fr_c hf150 (by decide)))⟩ rfl)
                      · show gm_Wp X LX d _ _ 249 153 _ [gm_vi (-1)] n K _ _ Q
                        have h150 : ¬ vn f e 0 9999 (tx_n f e b) := h150
                        refine gm_sz (gm_p_stor (pc := 153) (i := .istore_n 2) (sr := 0) (j := 2) (by decide +kernel) rfl (show 3 ≤ _ from Nat.le_of_ble_eq_true rfl) rfl) ?_
                        refine gm_sz (gm_p_load (pc := 154) (i := .aload_n 0) (sr := 2) (j := 0) (by decide +kernel) rfl rfl rfl) ?_
                        refine gm_sz (fw_gr (pc := 155) (ix := 13) (ci := 11) (j := 1) (r := 227) (by decide +kernel) (e0k hE (k := 226) (c := 11) (by decide +kernel)) (by decide +kernel) (by decide +kernel) (e0r hE (k := 226) (j := 1) (r := 227) (by decide +kernel))) ?_
                        refine gm_sz (gm_p_load (pc := 158) (i := .iload_n 1) (sr := 0) (j := 1) (by decide +kernel) rfl rfl rfl) ?_
                        refine fw_iftd (cc := .eq) (pc := 159) (off := 8) (by decide +kernel) (by decide) ⟨by decide, by decide⟩ (by decide) ?_
                        refine gm_sz (gm_p_const (pc := 167) (i := .bipush 13) (v := gm_vi 13) (by decide +kernel) (by decide +kernel)) ?_
                        refine gm_sz (gm_p_load (pc := 169) (i := .iload_n 2) (sr := 0) (j := 2) (by decide +kernel) rfl rfl rfl) ?_
                        refine gm_sz (fw_is (pc := 170) (k := 227) (len := 2093) (e0 := 13) (x := (-1)) (M' := gm_uM M150 227 13 (-1)) (by decide +kernel) (e0a hE (k := 227) (q := ((0 : Nat), (2093 : Nat))) (by decide +kernel)).1 (e0a hE (k := 227) (q := ((0 : Nat), (2093 : Nat))) (by decide +kernel)).2 (by decide) ⟨by omega, by omega⟩ rfl) ?_
                        refine gm_sz (gm_p_load (pc := 171) (i := .iload_n 2) (sr := 0) (j := 2) (by decide +kernel) rfl rfl rfl) ?_
                        refine fw_iftd (cc := .lt) (pc := 172) (off := 7) (by decide +kernel) (by decide) ⟨by decide, by decide⟩ (by decide) ?_
                        refine gm_sz (gm_p_const (pc := 179) (i := .iconst 0) (v := gm_vi 0) (by decide +kernel) (by decide +kernel)) ?_
                        have ev : v_line f e N b = (false, tx_n f e b, N) := by
                          unfold v_line
                          rw [tif_f h3, tif_f h17, tif_f h31, tif_f h45, tif_f h115, tif_t h126]
                          unfold v_seed
                          rw [tif_f h150]
                        rw [ev] at q0
                        exact gm_r_int (pc := 180) (by decide +kernel) (Or.inr ⟨(by decide +kernel), Or.inl rfl⟩) (q0 _ (fr_p (fr_t fr_0 hf150 (by decide)) (Or.inl (by decide))) ((uM_ne (by omega)).trans h11_150) (fun h => by cases h))
                    · show gm_Wp X LX d _ _ 249 129 _ [gm_vi 0] n K _ _ Q
                      have h126 : ¬ tx_is f e b wv_seed := h126
                      refine fw_iffd (cc := .ne) (pc := 129) (off := 5) (by decide +kernel) (by decide) ⟨by decide, by decide⟩ (by decide) ?_
                      refine gm_sz (gm_p_const (pc := 132) (i := .iconst 0) (v := gm_vi 0) (by decide +kernel) (by decide +kernel)) ?_
                      have ev : v_line f e N b = (false, b, N) := by
                        unfold v_line
                        rw [tif_f h3, tif_f h17, tif_f h31, tif_f h45, tif_f h115, tif_f h126, tif_f h59, tif_f h73, tif_f h87, tif_f h101]
                      rw [ev] at q0
                      exact gm_r_int (pc := 133) (by decide +kernel) (Or.inr ⟨(by decide +kernel), Or.inl rfl⟩) (q0 _ fr_0 hbg (fun h => by cases h))
theorem rv_247 (hd : 10 ≤ d) (hE : E0 n K R) (hF : VF f e) (hR : RW f e pt M) (hp : 0 ≤ pt ∧ pt ≤ e) (hg : tx_g f e pt = b) (hb : 0 ≤ b ∧ b ≤ e) (hT : TR N h M) (hN : NR N) (hS : NS N) {i : Int} (hi : 0 ≤ i ∧ i < 14) (q1 : ∀ (p2 : Int) M2, fr [((226 : Nat), some (9 : Int)), ((226 : Nat), some (11 : Int)), ((227 : Nat), none)] M M2 → RW f e p2 M2 → 0 ≤ p2 ∧ p2 ≤ e → tx_g f e p2 = (v_line f e N b).2.1 → TR (v_line f e N b).2.2 h M2 → BW M M2 → (v_line f e N b).1 = true → Q (.inl (some (gm_vi 1))) n K R M2) (q0 : ∀ M2, fr [((226 : Nat), some (9 : Int)), ((226 : Nat), some (11 : Int)), ((227 : Nat), none)] M M2 → M2 226 11 = (v_line f e N b).2.1 → ¬ (v_line f e N b).1 = true → Q (.inl (some (gm_vi 0))) n K R M2) : gm_Wp X LX d bc bs 247 0 (gm_ent 247 [gm_vr 226, gm_vi 1, gm_vi i]) [] n K R M Q := by
  refine gm_sz (gm_p_load (pc := 0) (i := .aload_n 0) (sr := 2) (j := 0) (by decide +kernel) rfl rfl rfl) ?_
  refine gm_c_virt (k := 226) (ci := 11) (mj := 248) (ix := 131) (pc := 1) (as := []) (st := []) (d' := d - 1) (bc' := 0) (bs' := 0) (by decide +kernel) (by decide +kernel) (by decide +kernel) (by decide +kernel) (e0k hE (k := 226) (c := 11) (by decide +kernel)).1 (e0k hE (k := 226) (c := 11) (by decide +kernel)).2 (by decide) (by decide +kernel) (show 0 = gm_na 248 by decide +kernel) fw_c0 (show 1 ≤ gm_ml 248 by decide +kernel) (Nat.le_of_ble_eq_true rfl) (by omega) (Nat.zero_le _) (Nat.zero_le _) ?_
  refine rv_248 (by omega) hE hF hR hp hg (fun M1 hf1 hr1 h11_1 => ?_)
  show gm_Wp X LX d _ _ 247 4 _ [] n K _ _ Q
  refine gm_sz (gm_p_load (pc := 4) (i := .iload_n 2) (sr := 0) (j := 2) (by decide +kernel) rfl rfl rfl) ?_
  refine gm_sz (gm_p_load (pc := 5) (i := .iload_n 1) (sr := 0) (j := 1) (by decide +kernel) rfl rfl rfl) ?_
  refine fw_iffd (cc := .eq) (pc := 6) (off := 8) (by decide +kernel) (by decide) ⟨by decide, by decide⟩ (by decide) ?_
  refine gm_sz (gm_p_const (pc := 9) (i := .bipush 14) (v := gm_vi 14) (by decide +kernel) (by decide +kernel)) ?_
  refine gm_sz (gm_p_goto (pc := 11) (off := 5) (by decide +kernel) (by decide)) ?_
  refine fw_icf (cc := .ge) (pc := 16) (off := 29) (by decide +kernel) (by decide) ⟨by omega, by omega⟩ ⟨by decide, by decide⟩ (show ¬ 14 ≤ i by omega) ?_
  refine gm_sz (gm_p_load (pc := 19) (i := .iload_n 1) (sr := 0) (j := 1) (by decide +kernel) rfl rfl rfl) ?_
  refine fw_iffd (cc := .eq) (pc := 20) (off := 13) (by decide +kernel) (by decide) ⟨by decide, by decide⟩ (by decide) ?_
  refine gm_sz (gm_p_load (pc := 23) (i := .aload_n 0) (sr := 2) (j := 0) (by decide +kernel) rfl rfl rfl) ?_
  refine gm_c_virt (k := 226) (ci := 11) (mj := 249) (ix := 283) (pc := 24) (as := []) (st := []) (d' := d - 1) (bc' := 0) (bs' := 0) (by decide +kernel) (by decide +kernel) (by decide +kernel) (by decide +kernel) (e0k hE (k := 226) (c := 11) (by decide +kernel)).1 (e0k hE (k := 226) (c := 11) (by decide +kernel)).2 (by decide) (by decide +kernel) (show 0 = gm_na 249 by decide +kernel) fw_c0 (show 1 ≤ gm_ml 249 by decide +kernel) (Nat.le_of_ble_eq_true rfl) (by omega) (Nat.zero_le _) (Nat.zero_le _) ?_
  refine rv_249 (by omega) hE hF hr1 h11_1 hb (tr_fr (W := [((226 : Nat), some (9 : Int)), ((226 : Nat), some (11 : Int))]) hT (fr_t fr_0 hf1 (by decide)) (by decide)) hN hS (fun p2 M24 g1 g2 g3 g4 g5 g6 g7 => ?_) (fun M24 g1 g2 g3 => ?_)
  · show gm_Wp X LX d _ _ 247 27 _ [gm_vi 1] n K _ _ Q
    refine fw_iffd (cc := .eq) (pc := 27) (off := 18) (by decide +kernel) (by decide) ⟨by decide, by decide⟩ (by decide) ?_
    refine gm_sz (gm_p_goto (pc := 30) (off := 11) (by decide +kernel) (by decide)) ?_
    refine gm_sz (gm_p_const (pc := 41) (i := .iconst 1) (v := gm_vi 1) (by decide +kernel) (by decide +kernel)) ?_
    refine gm_sz (gm_p_goto (pc := 42) (off := 4) (by decide +kernel) (by decide)) ?_
    exact gm_r_int (pc := 46) (by decide +kernel) (Or.inr ⟨(by decide +kernel), Or.inr rfl⟩) (q1 p2 _ (fr_t (fr_t fr_0 hf1 (by decide)) g1 (by decide)) g2 g3 g4 g5 ⟨fun j hj => ((g6.1 j hj).trans (fr_c hf1 (by decide))), ((g6.2).trans (fr_c hf1 (by decide)))⟩ g7)
  · show gm_Wp X LX d _ _ 247 27 _ [gm_vi 0] n K _ _ Q
    refine fw_iftd (cc := .eq) (pc := 27) (off := 18) (by decide +kernel) (by decide) ⟨by decide, by decide⟩ (by decide) ?_
    refine gm_sz (gm_p_const (pc := 45) (i := .iconst 0) (v := gm_vi 0) (by decide +kernel) (by decide +kernel)) ?_
    exact gm_r_int (pc := 46) (by decide +kernel) (Or.inr ⟨(by decide +kernel), Or.inl rfl⟩) (q0 _ (fr_t (fr_t fr_0 hf1 (by decide)) g1 (by decide)) g2 g3)
theorem rv_247x (hd : 10 ≤ d) (hE : E0 n K R) (hF : VF f e) (hR : RW f e pt M) (hp : 0 ≤ pt ∧ pt ≤ e) (hg : tx_g f e pt = b) (hb : 0 ≤ b ∧ b ≤ e) (h0 : ∀ M2, fr [((226 : Nat), some (9 : Int)), ((226 : Nat), some (11 : Int))] M M2 → M2 226 11 = b → Q (.inl (some (gm_vi 0))) n K R M2) : gm_Wp X LX d bc bs 247 0 (gm_ent 247 [gm_vr 226, gm_vi 1, gm_vi 14]) [] n K R M Q := by
  refine gm_sz (gm_p_load (pc := 0) (i := .aload_n 0) (sr := 2) (j := 0) (by decide +kernel) rfl rfl rfl) ?_
  refine gm_c_virt (k := 226) (ci := 11) (mj := 248) (ix := 131) (pc := 1) (as := []) (st := []) (d' := d - 1) (bc' := 0) (bs' := 0) (by decide +kernel) (by decide +kernel) (by decide +kernel) (by decide +kernel) (e0k hE (k := 226) (c := 11) (by decide +kernel)).1 (e0k hE (k := 226) (c := 11) (by decide +kernel)).2 (by decide) (by decide +kernel) (show 0 = gm_na 248 by decide +kernel) fw_c0 (show 1 ≤ gm_ml 248 by decide +kernel) (Nat.le_of_ble_eq_true rfl) (by omega) (Nat.zero_le _) (Nat.zero_le _) ?_
  refine rv_248 (by omega) hE hF hR hp hg (fun M1 hf1 hr1 h11_1 => ?_)
  show gm_Wp X LX d _ _ 247 4 _ [] n K _ _ Q
  refine gm_sz (gm_p_load (pc := 4) (i := .iload_n 2) (sr := 0) (j := 2) (by decide +kernel) rfl rfl rfl) ?_
  refine gm_sz (gm_p_load (pc := 5) (i := .iload_n 1) (sr := 0) (j := 1) (by decide +kernel) rfl rfl rfl) ?_
  refine fw_iffd (cc := .eq) (pc := 6) (off := 8) (by decide +kernel) (by decide) ⟨by decide, by decide⟩ (by decide) ?_
  refine gm_sz (gm_p_const (pc := 9) (i := .bipush 14) (v := gm_vi 14) (by decide +kernel) (by decide +kernel)) ?_
  refine gm_sz (gm_p_goto (pc := 11) (off := 5) (by decide +kernel) (by decide)) ?_
  refine fw_ictd (cc := .ge) (pc := 16) (off := 29) (by decide +kernel) (by decide) ⟨by decide, by decide⟩ ⟨by decide, by decide⟩ (by decide) ?_
  refine gm_sz (gm_p_const (pc := 45) (i := .iconst 0) (v := gm_vi 0) (by decide +kernel) (by decide +kernel)) ?_
  exact gm_r_int (pc := 46) (by decide +kernel) (Or.inr ⟨(by decide +kernel), Or.inl rfl⟩) (h0 _ (fr_t fr_0 hf1 (by decide)) h11_1)
theorem rv_245 (hd : 1 ≤ d) (hE : E0 n K R) (hF : VF f e) (hR : RW f e pt M) (hp : 0 ≤ pt ∧ pt ≤ e) (hg : tx_g f e pt = b) (hb : 0 ≤ b ∧ b ≤ e) (hq : ∀ M2, fr [((226 : Nat), some (9 : Int)), ((226 : Nat), some (11 : Int))] M M2 → RW f e b M2 → M2 226 11 = b → Q (.inl none) n K R M2) : gm_Wp X LX d bc bs 245 0 (gm_ent 245 [gm_vr 226]) [] n K R M Q := by
  have g := tr_c245 (X := X) (LX := LX) (bc := bc) (bs := bs) (pt := pt) (b := b) (bg := M 226 11) (dp := M 226 12) (st := M 226 15) (W := M 227) (Q := Q) hd (rv_E hE hF hR) hp (by rw [hR.1]; exact hg) (hq (rmv M b b) rmv_fr (rmv_RW hR) rfl)
  rw [show rm M pt (M 226 11) (M 226 12) (M 226 15) (M 227) = M from rmv_id hR] at g
  exact g
theorem rv_246 (hE : E0 n K R) (hF : VF f e) (hR : RW f e pt M) (hp : 0 ≤ pt ∧ pt ≤ e) (h1 : pt < e → f pt = 59 → Q (.inl (some (gm_vi 1))) n K R M) (h0 : ¬ (pt < e ∧ f pt = 59) → Q (.inl (some (gm_vi 0))) n K R M) : gm_Wp X LX d bc bs 246 0 (gm_ent 246 [gm_vr 226, gm_vi 59, gm_vi 59]) [] n K R M Q := by
  have e1 : rm M pt (M 226 11) (M 226 12) (M 226 15) (M 227) = M := rmv_id hR
  have g := tr_c246 (X := X) (LX := LX) (d := d) (bc := bc) (bs := bs) (lo := 59) (hi := 59) (pt := pt) (bg := M 226 11) (dp := M 226 12) (st := M 226 15) (W := M 227) (Q := Q) (rv_E hE hF hR) ⟨by decide, by decide⟩ ⟨by decide, by decide⟩ hp (fun k1 k2 k3 => by rw [hR.1] at k2 k3; rw [e1]; exact h1 k1 (by omega)) (fun k => by rw [hR.1] at k; rw [e1]; exact h0 (fun hh => k ⟨hh.1, by omega, by omega⟩))
  rw [e1] at g
  exact g
theorem rv_243l (hd : 11 ≤ d) (hE : E0 n K R) (hF : VF f e) : ∀ (t : Nat) (i pt b : Int) (N : Int → Int) (M : gm_M), i + t = 14 → 0 ≤ i → RW f e pt M → 0 ≤ pt ∧ pt ≤ e → tx_g f e pt = b → 0 ≤ b ∧ b ≤ e → TR N h M → GI N → (∀ (k : Int) M2, 0 ≤ k → k ≤ 14 → fr [((226 : Nat), some (9 : Int)), ((226 : Nat), some (11 : Int)), ((227 : Nat), none)] M M2 → TR (v_txt f e t N b).2.2 h M2 → BW M M2 → (v_txt f e t N b).1 = true → Q (.inl (some (gm_vi k))) n K R M2) → (∀ M2, fr [((226 : Nat), some (9 : Int)), ((226 : Nat), some (11 : Int)), ((227 : Nat), none)] M M2 → M2 226 11 = (v_txt f e t N b).2.1 → ¬ (v_txt f e t N b).1 = true → Q (.inl (some (gm_vi (-1)))) n K R M2) → gm_Wp X LX d bc bs 243 28 [some (gm_vr 226), some (gm_vi 1), some (gm_vi i)] [] n K R M Q := by
  intro t
  induction t with
  | zero =>
    intro i pt b N M hi hi0 hR hp hg hb hT hG q1 q0
    obtain rfl : i = 14 := by omega
    refine gm_sz (gm_p_load (pc := 28) (i := .aload_n 0) (sr := 2) (j := 0) (by decide +kernel) rfl rfl rfl) ?_
    refine gm_sz (gm_p_load (pc := 29) (i := .iload_n 1) (sr := 0) (j := 1) (by decide +kernel) rfl rfl rfl) ?_
    refine gm_sz (gm_p_load (pc := 30) (i := .iload_n 2) (sr := 0) (j := 2) (by decide +kernel) rfl rfl rfl) ?_
    refine gm_c_virt (k := 226) (ci := 11) (mj := 247) (ix := 292) (pc := 31) (as := [gm_vi 1, gm_vi 14]) (st := []) (d' := d - 1) (bc' := 0) (bs' := 0) (by decide +kernel) (by decide +kernel) (by decide +kernel) (by decide +kernel) (e0k hE (k := 226) (c := 11) (by decide +kernel)).1 (e0k hE (k := 226) (c := 11) (by decide +kernel)).2 (by decide) (by decide +kernel) (show 2 = gm_na 247 by decide +kernel) (fw_c2 fw_si fw_si) (show 3 ≤ gm_ml 247 by decide +kernel) (Nat.le_of_ble_eq_true rfl) (by omega) (Nat.zero_le _) (Nat.zero_le _) ?_
    refine rv_247x (by omega) hE hF hR hp hg hb (fun M31 hf31 h11 => ?_)
    show gm_Wp X LX d _ _ 243 34 _ [gm_vi 0] n K _ _ Q
    refine fw_iffd (cc := .ne) (pc := 34) (off := 5) (by decide +kernel) (by decide) ⟨by decide, by decide⟩ (by decide) ?_
    refine gm_sz (gm_p_const (pc := 37) (i := .iconst (-1)) (v := gm_vi (-1)) (by decide +kernel) (by decide +kernel)) ?_
    exact gm_r_int (pc := 38) (by decide +kernel) (Or.inl (by decide +kernel)) (q0 _ (fr_t fr_0 hf31 (by decide)) h11 (fun h => by cases h))
  | succ t ih =>
    intro i pt b N M hi hi0 hR hp hg hb hT hG q1 q0
    have hN := hG.1
    have hvb := v_line_b (f := f) (N := N) hb
    have hv0 : 0 ≤ (v_line f e N b).2.1 ∧ (v_line f e N b).2.1 ≤ e := ⟨by have := hb.1; omega, hvb.2⟩
    have he4 := hF.1
    refine gm_sz (gm_p_load (pc := 28) (i := .aload_n 0) (sr := 2) (j := 0) (by decide +kernel) rfl rfl rfl) ?_
    refine gm_sz (gm_p_load (pc := 29) (i := .iload_n 1) (sr := 0) (j := 1) (by decide +kernel) rfl rfl rfl) ?_
    refine gm_sz (gm_p_load (pc := 30) (i := .iload_n 2) (sr := 0) (j := 2) (by decide +kernel) rfl rfl rfl) ?_
    refine gm_c_virt (k := 226) (ci := 11) (mj := 247) (ix := 292) (pc := 31) (as := [gm_vi 1, gm_vi i]) (st := []) (d' := d - 1) (bc' := 0) (bs' := 0) (by decide +kernel) (by decide +kernel) (by decide +kernel) (by decide +kernel) (e0k hE (k := 226) (c := 11) (by decide +kernel)).1 (e0k hE (k := 226) (c := 11) (by decide +kernel)).2 (by decide) (by decide +kernel) (show 2 = gm_na 247 by decide +kernel) (fw_c2 fw_si fw_si) (show 3 ≤ gm_ml 247 by decide +kernel) (Nat.le_of_ble_eq_true rfl) (by omega) (Nat.zero_le _) (Nat.zero_le _) ?_
    refine rv_247 (by omega) hE hF hR hp hg hb hT hN hG.2.1 ⟨by omega, by omega⟩ (fun p2 M31 g1 g2 g3 g4 g5 g6 g7 => ?_) (fun M31 g1 g2 g3 => ?_)
    · show gm_Wp X LX d _ _ 243 34 _ [gm_vi 1] n K _ _ Q
      refine fw_iftd (cc := .ne) (pc := 34) (off := 5) (by decide +kernel) (by decide) ⟨by decide, by decide⟩ (by decide) ?_
      refine gm_sz (gm_p_load (pc := 39) (i := .aload_n 0) (sr := 2) (j := 0) (by decide +kernel) rfl rfl rfl) ?_
      refine gm_c_virt (k := 226) (ci := 11) (mj := 245) (ix := 119) (pc := 40) (as := []) (st := []) (d' := d - 1) (bc' := 0) (bs' := 0) (by decide +kernel) (by decide +kernel) (by decide +kernel) (by decide +kernel) (e0k hE (k := 226) (c := 11) (by decide +kernel)).1 (e0k hE (k := 226) (c := 11) (by decide +kernel)).2 (by decide) (by decide +kernel) (show 0 = gm_na 245 by decide +kernel) fw_c0 (show 1 ≤ gm_ml 245 by decide +kernel) (Nat.le_of_ble_eq_true rfl) (by omega) (Nat.zero_le _) (Nat.zero_le _) ?_
      refine rv_245 (by omega) hE hF g2 g3 g4 hv0 (fun M40 hf40 hr40 h11 => ?_)
      show gm_Wp X LX d _ _ 243 43 _ [] n K _ _ Q
      have hgg : tx_g f e ((v_line f e N b).2.1) = (v_line f e N b).2.1 := by have z9 := tx_gi (f := f) (e := e) (p := p2) g3.2; rwa [g4] at z9
      refine gm_sz (gm_p_load (pc := 43) (i := .aload_n 0) (sr := 2) (j := 0) (by decide +kernel) rfl rfl rfl) ?_
      refine gm_sz (fw_gi (pc := 44) (ix := 106) (ci := 11) (j := 9) (x := (v_line f e N b).2.1) (by decide +kernel) (e0k hE (k := 226) (c := 11) (by decide +kernel)) (by decide +kernel) (by decide +kernel) hr40.2.2) ?_
      refine gm_sz (gm_p_load (pc := 47) (i := .aload_n 0) (sr := 2) (j := 0) (by decide +kernel) rfl rfl rfl) ?_
      refine gm_sz (fw_gi (pc := 48) (ix := 109) (ci := 11) (j := 10) (x := e) (by decide +kernel) (e0k hE (k := 226) (c := 11) (by decide +kernel)) (by decide +kernel) (by decide +kernel) hr40.2.1) ?_
      refine fw_ic (cc := .ne) (pc := 51) (off := 7) (by decide +kernel) (by decide) ⟨by omega, by omega⟩ ⟨by omega, by omega⟩ (fun h51 => ?_) (fun h51 => ?_)
      · have h51 : ¬ ((v_line f e N b).2.1) = e := h51
        refine gm_sz (gm_p_load (pc := 58) (i := .aload_n 0) (sr := 2) (j := 0) (by decide +kernel) rfl rfl rfl) ?_
        refine gm_sz (gm_p_const (pc := 59) (i := .bipush 59) (v := gm_vi 59) (by decide +kernel) (by decide +kernel)) ?_
        refine gm_sz (gm_p_const (pc := 61) (i := .bipush 59) (v := gm_vi 59) (by decide +kernel) (by decide +kernel)) ?_
        refine gm_c_virt (k := 226) (ci := 11) (mj := 246) (ix := 112) (pc := 63) (as := [gm_vi 59, gm_vi 59]) (st := []) (d' := d - 1) (bc' := 0) (bs' := 0) (by decide +kernel) (by decide +kernel) (by decide +kernel) (by decide +kernel) (e0k hE (k := 226) (c := 11) (by decide +kernel)).1 (e0k hE (k := 226) (c := 11) (by decide +kernel)).2 (by decide) (by decide +kernel) (show 2 = gm_na 246 by decide +kernel) (fw_c2 fw_si fw_si) (show 3 ≤ gm_ml 246 by decide +kernel) (Nat.le_of_ble_eq_true rfl) (by omega) (Nat.zero_le _) (Nat.zero_le _) ?_
        refine rv_246 hE hF hr40 hv0 (fun ha hb9 => ?_) (fun ha => ?_)
        · show gm_Wp X LX d _ _ 243 66 _ [gm_vi 1] n K _ _ Q
          have ha : (v_line f e N b).2.1 < e := ha
          have hb9 : f ((v_line f e N b).2.1) = 59 := hb9
          refine fw_iftd (cc := .ne) (pc := 66) (off := 5) (by decide +kernel) (by decide) ⟨by decide, by decide⟩ (by decide) ?_
          refine gm_sz (gm_p_load (pc := 71) (i := .aload_n 0) (sr := 2) (j := 0) (by decide +kernel) rfl rfl rfl) ?_
          refine gm_sz (gm_p_dup (pc := 72) (by decide +kernel) fw_sr) ?_
          refine gm_sz (fw_gi (pc := 73) (ix := 106) (ci := 11) (j := 9) (x := (v_line f e N b).2.1) (by decide +kernel) (e0k hE (k := 226) (c := 11) (by decide +kernel)) (by decide +kernel) (by decide +kernel) hr40.2.2) ?_
          refine gm_sz (gm_p_const (pc := 76) (i := .iconst 1) (v := gm_vi 1) (by decide +kernel) (by decide +kernel)) ?_
          refine gm_sz (gm_p_bin (pc := 77) (i := .iadd) (f := fun x y => x + y) (by decide +kernel) rfl) ?_
          refine gm_sz (fw_pi (pc := 78) (ix := 106) (ci := 11) (j := 9) (M' := gm_uM M40 226 9 (((v_line f e N b).2.1) + 1)) (by decide +kernel) (e0k hE (k := 226) (c := 11) (by decide +kernel)) (by decide +kernel) (by decide +kernel) (by decide +kernel) rfl) ?_
          refine gm_sz (gm_p_iinc (pc := 81) (j := 2) (z := 1) (by decide +kernel) rfl) ?_
          refine gm_sz (gm_p_goto (pc := 84) (off := (-56)) (by decide +kernel) (by decide)) ?_
          have k9 : tx_k f e (v_line f e N b).2.1 = 59 := (tx_ksg (f := f) (e := e) (b := (v_line f e N b).2.1) (c := 59) (fun h => hF.2 _ (by omega) (by omega)) (by decide)).mpr ⟨ha, hb9⟩
          have ev : v_txt f e (t + 1) N b = v_txt f e t (v_line f e N b).2.2 (tx_n f e (v_line f e N b).2.1) := by
            show tif _ _ _ = _
            rw [tif_t g7, tif_f (by omega), tif_t k9]
          rw [ev] at q1 q0
          have e9 : tx_s f e (v_line f e N b).2.1 = (v_line f e N b).2.1 + 1 := (tx_k3 (f := f) (m := 0) (by omega) (by omega) (by omega)).2.1
          have n9 := tx_nb (f := f) (e := e) (b := (v_line f e N b).2.1) hv0.2
          have bw : BW M (gm_uM M40 226 9 (((v_line f e N b).2.1) + 1)) := ⟨fun j hj => ((uM_ne (by omega)).trans ((fr_c hf40 (by decide)).trans (g6.1 j hj))), ((uM_ne (by omega)).trans ((fr_c hf40 (by decide)).trans g6.2))⟩
          have r9 : RW f e ((v_line f e N b).2.1 + 1) (gm_uM M40 226 9 (((v_line f e N b).2.1) + 1)) := ⟨hr40.1, (uM_ne (by omega)).trans hr40.2.1, uM_at⟩
          exact ih (i + 1) _ (tx_n f e (v_line f e N b).2.1) (v_line f e N b).2.2 _ (by omega) (by omega) r9 ⟨by omega, by omega⟩ (by unfold tx_n; rw [e9]) ⟨by omega, n9.2.1⟩ (tr_ws (W := [((226 : Nat), some (9 : Int)), ((226 : Nat), some (11 : Int)), ((227 : Nat), none)]) hT (((congrArg ws (funext fun j => uM_ne (by omega))).trans (((ws_uf hf40 (by decide)).trans (g5.1))))) (fr_p (fr_t (fr_t fr_0 g1 (by decide)) hf40 (by decide)) (Or.inr (by decide))) (by decide)) (v_line_g hG hb g7) (fun k M2 a1 a2 a3 a4 a5 a6 => q1 k M2 a1 a2 (fr_t (fr_p (fr_t (fr_t fr_0 g1 (by decide)) hf40 (by decide)) (Or.inr (by decide))) a3 (by decide)) a4 (bw_t bw a5) a6) (fun M2 a1 a2 a3 => q0 M2 (fr_t (fr_p (fr_t (fr_t fr_0 g1 (by decide)) hf40 (by decide)) (Or.inr (by decide))) a1 (by decide)) a2 a3)
        · show gm_Wp X LX d _ _ 243 66 _ [gm_vi 0] n K _ _ Q
          have ha : ¬ ((v_line f e N b).2.1 < e ∧ f ((v_line f e N b).2.1) = 59) := ha
          refine fw_iffd (cc := .ne) (pc := 66) (off := 5) (by decide +kernel) (by decide) ⟨by decide, by decide⟩ (by decide) ?_
          refine gm_sz (gm_p_const (pc := 69) (i := .iconst (-1)) (v := gm_vi (-1)) (by decide +kernel) (by decide +kernel)) ?_
          have n1 : ¬ tx_k f e (v_line f e N b).2.1 = 256 := fun hh => by have := tx_kne2 (f := f) hh; omega
          have n2 : ¬ tx_k f e (v_line f e N b).2.1 = 59 := fun hh => by have := (tx_ksg (f := f) (e := e) (b := (v_line f e N b).2.1) (c := 59) (fun h => hF.2 _ (by omega) (by omega)) (by decide)).mp hh; exact ha this
          have ev : v_txt f e (t + 1) N b = (false, (v_line f e N b).2.1, N) := by
            show tif _ _ _ = _
            rw [tif_t g7, tif_f n1, tif_f n2]
          rw [ev] at q0
          exact gm_r_int (pc := 70) (by decide +kernel) (Or.inl (by decide +kernel)) (q0 _ (fr_t (fr_t fr_0 g1 (by decide)) hf40 (by decide)) h11 (fun h => by cases h))
      · have h51 : ((v_line f e N b).2.1) = e := Classical.not_not.mp h51
        refine gm_sz (gm_p_load (pc := 54) (i := .iload_n 2) (sr := 0) (j := 2) (by decide +kernel) rfl rfl rfl) ?_
        refine gm_sz (gm_p_const (pc := 55) (i := .iconst 1) (v := gm_vi 1) (by decide +kernel) (by decide +kernel)) ?_
        refine gm_sz (gm_p_bin (pc := 56) (i := .iadd) (f := fun x y => x + y) (by decide +kernel) rfl) ?_
        have n1 : tx_k f e (v_line f e N b).2.1 = 256 := (tx_k0 (f := f) (m := 0) (by omega)).1
        have ev : v_txt f e (t + 1) N b = (v_line f e N b) := by
          show tif _ _ _ = _
          rw [tif_t g7, tif_t n1]
        rw [ev] at q1
        exact gm_r_int (pc := 57) (by decide +kernel) (Or.inl (by decide +kernel)) (q1 _ _ (by omega) (by omega) (fr_t (fr_t fr_0 g1 (by decide)) hf40 (by decide)) (tr_ws (W := [((226 : Nat), some (9 : Int)), ((226 : Nat), some (11 : Int)), ((227 : Nat), none)]) hT (((ws_uf hf40 (by decide)).trans (g5.1))) (fr_t (fr_t fr_0 g1 (by decide)) hf40 (by decide)) (by decide)) ⟨fun j hj => ((fr_c hf40 (by decide)).trans (g6.1 j hj)), ((fr_c hf40 (by decide)).trans g6.2)⟩ g7)
    · show gm_Wp X LX d _ _ 243 34 _ [gm_vi 0] n K _ _ Q
      refine fw_iffd (cc := .ne) (pc := 34) (off := 5) (by decide +kernel) (by decide) ⟨by decide, by decide⟩ (by decide) ?_
      refine gm_sz (gm_p_const (pc := 37) (i := .iconst (-1)) (v := gm_vi (-1)) (by decide +kernel) (by decide +kernel)) ?_
      have ev : v_txt f e (t + 1) N b = (false, (v_line f e N b).2.1, N) := tif_f g3
      rw [ev] at q0
      exact gm_r_int (pc := 38) (by decide +kernel) (Or.inl (by decide +kernel)) (q0 _ (fr_t fr_0 g1 (by decide)) g2 (fun h => by cases h))
end RVV
end
/-! 7a40.v4vy -/
section
/-! THE CLASS'S readText OF A VALLEY, whole; a State copied to the draft and back (laid by wip/core/v4.py). -/
section V4A
variable {X : Int → Int} {LX d bc bs n : Nat} {K : gm_K} {R : gm_R} {M : gm_M} {Q : gm_Q} {e e0 p b w k v x : Int} {N : Int → Int}
theorem vm_len : gm_uM (vm M p b w k v) 214 ((2 : Nat) : Int) x = vm (gm_uM M 214 2 x) p b w k v := by
  show gm_uM (vm M p b w k v) 214 2 x = _
  funext a j
  by_cases ha : a = 214 <;> by_cases hj : j = 2 <;> simp [gm_uM, vm, ha, hj]
theorem vx_c75 (hd : 2 ≤ d) (hE : vE n K R (gm_uM M 214 2 e0) e0) (h0 : 0 ≤ e0 ∧ e0 ≤ 400) (hq : Q (.inl none) n K R (vt (gm_uM M 214 2 e0) e0 (tx_g (M 2) e0 0) (-1))) : gm_Wp X LX d bc bs 75 0 (gm_ent 75 [gm_vr 214, gm_vi e0]) [] n K R (vm M p b w k v) Q := by
  refine gm_sz (gm_p_load (pc := 0) (i := .aload_n 0) (sr := 2) (j := 0) (by decide +kernel) rfl rfl rfl) ?_
  refine gm_sz (gm_p_load (pc := 1) (i := .iload_n 1) (sr := 0) (j := 1) (by decide +kernel) rfl rfl rfl) ?_
  refine gm_sz (gm_p_load (pc := 2) (i := .aload_n 0) (sr := 2) (j := 0) (by decide +kernel) rfl rfl rfl) ?_
  refine gm_sz (fw_gr (pc := 3) (ix := 30) (ci := 8) (j := 0) (r := 2) (by decide +kernel) (vE214 hE) (by decide +kernel) (by decide +kernel) hE.2.1.1) ?_
  refine gm_sz (fw_al (pc := 6) (k := 2) (len := 400) (by decide +kernel) (vE2 hE).1 (vE2 hE).2 (by decide)) ?_
  refine gm_sz (gm_p_min (pc := 7) (ix := 37) (x := e0) (y := 400) (by decide +kernel) (by decide +kernel) (gm_w_id (by omega) (by omega)) (gm_w_id (by omega) (by omega)) (Nat.le_of_ble_eq_true rfl) (by omega)) ?_
  rw [show min e0 400 = e0 by omega]
  refine gm_sz (fw_pi (pc := 10) (ix := 9) (ci := 8) (j := 2) (M' := vm (gm_uM M 214 2 e0) p b w k v) (by decide +kernel) (vE214 hE) (by decide +kernel) (by decide +kernel) (by decide +kernel) vm_len) ?_
  refine gm_sz (gm_p_load (pc := 13) (i := .aload_n 0) (sr := 2) (j := 0) (by decide +kernel) rfl rfl rfl) ?_
  refine gm_sz (gm_p_const (pc := 14) (i := .iconst 0) (v := gm_vi 0) (by decide +kernel) (by decide +kernel)) ?_
  refine gm_sz (fw_pi (pc := 15) (ix := 15) (ci := 8) (j := 3) (M' := vm (gm_uM M 214 2 e0) 0 b w k v) (by decide +kernel) (vE214 hE) (by decide +kernel) (by decide +kernel) (by decide +kernel) vm_p) ?_
  refine gm_sz (gm_p_load (pc := 18) (i := .aload_n 0) (sr := 2) (j := 0) (by decide +kernel) rfl rfl rfl) ?_
  refine gm_sz (gm_p_const (pc := 19) (i := .iconst (-1)) (v := gm_vi (-1)) (by decide +kernel) (by decide +kernel)) ?_
  refine gm_sz (fw_pi (pc := 20) (ix := 21) (ci := 8) (j := 5) (M' := vm (gm_uM M 214 2 e0) 0 b (-1) k v) (by decide +kernel) (vE214 hE) (by decide +kernel) (by decide +kernel) (by decide +kernel) vm_w) ?_
  refine gm_sz (gm_p_load (pc := 23) (i := .aload_n 0) (sr := 2) (j := 0) (by decide +kernel) rfl rfl rfl) ?_
  refine gm_c_virt (k := 214) (ci := 8) (mj := 76) (ix := 43) (pc := 24) (as := []) (st := []) (d' := d - 1) (bc' := 0) (bs' := 0) (by decide +kernel) (by decide +kernel) (by decide +kernel) (by decide +kernel) (vE214 hE).1 (vE214 hE).2 (by decide) (by decide +kernel) (show 0 = gm_na 76 by decide +kernel) fw_c0 (show 1 ≤ gm_ml 76 by decide +kernel) (Nat.le_of_ble_eq_true rfl) (by omega) (Nat.zero_le _) (Nat.zero_le _) ?_
  refine vx_nx (by omega) hE ⟨Int.le_refl _, h0.1⟩ ?_
  show gm_Wp X LX d _ _ 75 27 _ [] n K R _ Q
  exact gm_r_void (pc := 27) (by decide +kernel) (by decide +kernel) (by rw [show (gm_uM M 214 2 e0) 2 = M 2 from funext fun j => uM_ne (by omega)]; exact hq)

theorem vw_75 (hd : 2 ≤ d) (hE : E0 n K R) (hF : VF (M 2) e0) (h4 : M 214 1 = 4) (h13 : M 213 1 = 14) (hq : ∀ M2, fr [((214 : Nat), some (2 : Int)), ((214 : Nat), some (3 : Int)), ((214 : Nat), some (4 : Int)), ((214 : Nat), some (5 : Int)), ((214 : Nat), some (6 : Int)), ((214 : Nat), some (7 : Int))] M M2 → VW (M 2) e0 (tx_g (M 2) e0 0) (-1) M2 → Q (.inl none) n K R M2) : gm_Wp X LX d bc bs 75 0 (gm_ent 75 [gm_vr 214, gm_vi e0]) [] n K R M Q := by
  have e2 : (gm_uM M 214 2 e0) 2 = M 2 := funext fun j => uM_ne (by omega)
  have f4 : (gm_uM M 214 2 e0) 214 1 = 4 := (uM_ne (by omega)).trans h4
  have f3 : (gm_uM M 214 2 e0) 213 1 = 14 := (uM_ne (by omega)).trans h13
  have f2 : (gm_uM M 214 2 e0) 214 2 = e0 := uM_at
  have hE2 : vE n K R (gm_uM M 214 2 e0) e0 := ⟨⟨e0a hE (k := 2) (q := ((1 : Nat), (400 : Nat))) (by decide +kernel), e0a hE (k := 214) (q := ((12 : Nat), (0 : Nat))) (by decide +kernel)⟩, ⟨e0r hE (k := 214) (j := 0) (r := 2) (by decide +kernel), f4⟩, ⟨f2, hF.1⟩, fun j h1 h2 => by rw [e2]; exact hF.2 j h1 h2⟩
  have f1 : fr [((214 : Nat), some (2 : Int)), ((214 : Nat), some (3 : Int)), ((214 : Nat), some (4 : Int)), ((214 : Nat), some (5 : Int)), ((214 : Nat), some (6 : Int)), ((214 : Nat), some (7 : Int))] M (gm_uM M 214 2 e0) := fr_p fr_0 (Or.inr (by decide))
  have g := vx_c75 (X := X) (LX := LX) (bc := bc) (bs := bs) (Q := Q) (M := M) (p := M 214 3) (b := M 214 4) (w := M 214 5) (k := M 214 6) (v := M 214 7) hd hE2 hF.1 (hq _ (fr_t f1 vt_fr (by decide)) (by
    have r : ∀ b9 w9, vt (gm_uM M 214 2 e0) e0 b9 w9 = vm (gm_uM M 214 2 e0) (tx_s (M 2) e0 b9) b9 w9 (tx_k (M 2) e0 b9) (tx_v (M 2) e0 4 b9) := fun b9 w9 => by unfold vt; rw [e2]
    rw [r]
    generalize gm_uM M 214 2 e0 = G at e2 f2 f3 f4
    exact ⟨e2, ⟨f4, f3, f2⟩, rfl, rfl, rfl, rfl, rfl⟩))
  rw [vm_id] at g
  exact g
theorem ks_16 (hE : E0 n K R) : KS n K R 16 := ⟨e0k hE (k := 16) (c := 1) (by decide +kernel), ⟨⟨e0k hE (k := 17) (c := 2) (by decide +kernel), e0a hE (k := 18) (q := ((0 : Nat), (56 : Nat))) (by decide +kernel)⟩, e0r hE (k := 16) (j := 9) (r := 17) (by decide +kernel), e0r hE (k := 17) (j := 2) (r := 18) (by decide +kernel)⟩, ⟨⟨e0k hE (k := 19) (c := 2) (by decide +kernel), e0a hE (k := 20) (q := ((0 : Nat), (24 : Nat))) (by decide +kernel)⟩, e0r hE (k := 16) (j := 10) (r := 19) (by decide +kernel), e0r hE (k := 19) (j := 2) (r := 20) (by decide +kernel)⟩, ⟨⟨e0k hE (k := 21) (c := 2) (by decide +kernel), e0a hE (k := 22) (q := ((0 : Nat), (24 : Nat))) (by decide +kernel)⟩, e0r hE (k := 16) (j := 11) (r := 21) (by decide +kernel), e0r hE (k := 21) (j := 2) (r := 22) (by decide +kernel)⟩, ⟨⟨e0k hE (k := 23) (c := 2) (by decide +kernel), e0a hE (k := 24) (q := ((0 : Nat), (168 : Nat))) (by decide +kernel)⟩, e0r hE (k := 16) (j := 12) (r := 23) (by decide +kernel), e0r hE (k := 23) (j := 2) (r := 24) (by decide +kernel)⟩, ⟨⟨e0k hE (k := 25) (c := 2) (by decide +kernel), e0a hE (k := 26) (q := ((0 : Nat), (36 : Nat))) (by decide +kernel)⟩, e0r hE (k := 16) (j := 13) (r := 25) (by decide +kernel), e0r hE (k := 25) (j := 2) (r := 26) (by decide +kernel)⟩, ⟨⟨e0k hE (k := 27) (c := 2) (by decide +kernel), e0a hE (k := 28) (q := ((0 : Nat), (72 : Nat))) (by decide +kernel)⟩, e0r hE (k := 16) (j := 14) (r := 27) (by decide +kernel), e0r hE (k := 27) (j := 2) (r := 28) (by decide +kernel)⟩⟩
theorem mx_16 (hC : CST M) : MX M 16 := ⟨hC (17, 0, 8) (by decide), hC (19, 0, 8) (by decide), hC (21, 0, 8) (by decide), hC (23, 0, 24) (by decide), hC (25, 0, 6) (by decide), hC (27, 0, 24) (by decide)⟩
theorem e0h16 (hE : E0 n K R) {v : Nat} : E0 n K (gm_uR R 16 8 v) := e0u hE (by decide +kernel)
theorem cst_cpd : cstL.all (fun q => decide (q.1 < 16 ∨ 16 + 12 < q.1 ∨ ((q.1 = 16 + 1 ∨ q.1 = 16 + 3 ∨ q.1 = 16 + 5 ∨ q.1 = 16 + 7 ∨ q.1 = 16 + 9 ∨ q.1 = 16 + 11) ∧ 0 ≤ q.2.1 ∧ q.2.1 < 3))) = true := by decide +kernel
theorem vy_74 (hq : Q (.inl none) n K R M) : gm_Wp X LX d bc bs 74 0 (gm_ent 74 [gm_vr 213]) [] n K R M Q := gm_r_void (pc := 0) (by decide +kernel) (by decide +kernel) hq
theorem vy_72 {f : Int → Int} (hd : 11 ≤ d) (hE : E0 n K R) (hC : CST M) (hf9 : M 2 = f) (hF : VF f e0) (h4 : M 214 1 = 4) (h13 : M 213 1 = 14) (hT : cs M 16 = N) (hG : GI N) (q1 : ∀ M2, fr [((214 : Nat), some (2 : Int)), ((214 : Nat), some (3 : Int)), ((214 : Nat), some (4 : Int)), ((214 : Nat), some (5 : Int)), ((214 : Nat), some (6 : Int)), ((214 : Nat), some (7 : Int)), ((16 : Nat), none), ((17 : Nat), some (3 : Int)), ((18 : Nat), none), ((19 : Nat), some (3 : Int)), ((20 : Nat), none), ((21 : Nat), some (3 : Int)), ((22 : Nat), none), ((23 : Nat), some (3 : Int)), ((24 : Nat), none), ((25 : Nat), some (3 : Int)), ((26 : Nat), none)] M M2 → CST M2 → cs M2 16 = (v_val f e0 N).2.2 → (v_val f e0 N).1 = true → Q (.inl (some (gm_vi (-1)))) n K R M2) (q0 : ∀ M2, fr [((214 : Nat), some (2 : Int)), ((214 : Nat), some (3 : Int)), ((214 : Nat), some (4 : Int)), ((214 : Nat), some (5 : Int)), ((214 : Nat), some (6 : Int)), ((214 : Nat), some (7 : Int)), ((16 : Nat), none), ((17 : Nat), some (3 : Int)), ((18 : Nat), none), ((19 : Nat), some (3 : Int)), ((20 : Nat), none), ((21 : Nat), some (3 : Int)), ((22 : Nat), none), ((23 : Nat), some (3 : Int)), ((24 : Nat), none), ((25 : Nat), some (3 : Int)), ((26 : Nat), none)] M M2 → CST M2 → ¬ (v_val f e0 N).1 = true → Q (.inl (some (gm_vi (v_val f e0 N).2.1))) n K R M2) : gm_Wp X LX d bc bs 72 0 (gm_ent 72 [gm_vr 213, gm_vi e0]) [] n K R M Q := by
  subst hf9
  obtain ⟨g1, g2, -⟩ := tx_gb (f := M 2) hF.1.1
  have hb : 0 ≤ tx_g (M 2) e0 0 ∧ tx_g (M 2) e0 0 ≤ e0 := ⟨g1, g2⟩
  have he9 := hF.1
  have hkc := tx_kc (f := M 2) (e := e0) (b := tx_g (M 2) e0 0) (fun h => hF.2 _ (by omega) (by omega))
  refine gm_sz (gm_p_load (pc := 0) (i := .aload_n 0) (sr := 2) (j := 0) (by decide +kernel) rfl rfl rfl) ?_
  refine gm_c_up (k := 213) (ci := 7) (mj := 74) (ix := 24) (pc := 1) (as := []) (st := []) (d' := d - 1) (bc' := 0) (bs' := 0) (by decide +kernel) (by decide +kernel) (by decide +kernel) (e0k hE (k := 213) (c := 7) (by decide +kernel)).1 (e0k hE (k := 213) (c := 7) (by decide +kernel)).2 (show 0 = gm_na 74 by decide +kernel) fw_c0 (show 1 ≤ gm_ml 74 by decide +kernel) (Nat.le_of_ble_eq_true rfl) (by omega) (Nat.zero_le _) (Nat.zero_le _) ?_
  refine vy_74 ?_
  show gm_Wp X LX d _ _ 72 4 _ [] n K _ _ Q
  refine gm_sz (gm_p_load (pc := 4) (i := .aload_n 0) (sr := 2) (j := 0) (by decide +kernel) rfl rfl rfl) ?_
  refine gm_sz (fw_gr (pc := 5) (ix := 14) (ci := 7) (j := 0) (r := 214) (by decide +kernel) (e0k hE (k := 213) (c := 7) (by decide +kernel)) (by decide +kernel) (by decide +kernel) (e0r hE (k := 213) (j := 0) (r := 214) (by decide +kernel))) ?_
  refine gm_sz (gm_p_load (pc := 8) (i := .iload_n 1) (sr := 0) (j := 1) (by decide +kernel) rfl rfl rfl) ?_
  refine gm_c_virt (k := 214) (ci := 8) (mj := 75) (ix := 27) (pc := 9) (as := [gm_vi e0]) (st := []) (d' := d - 1) (bc' := 0) (bs' := 0) (by decide +kernel) (by decide +kernel) (by decide +kernel) (by decide +kernel) (e0k hE (k := 214) (c := 8) (by decide +kernel)).1 (e0k hE (k := 214) (c := 8) (by decide +kernel)).2 (by decide) (by decide +kernel) (show 1 = gm_na 75 by decide +kernel) (fw_c1 fw_si) (show 2 ≤ gm_ml 75 by decide +kernel) (Nat.le_of_ble_eq_true rfl) (by omega) (Nat.zero_le _) (Nat.zero_le _) ?_
  refine vw_75 (by omega) hE hF h4 h13 (fun M9 hf9 hv9 => ?_)
  show gm_Wp X LX d _ _ 72 12 _ [] n K _ _ Q
  refine gm_sz (gm_p_load (pc := 12) (i := .aload_n 0) (sr := 2) (j := 0) (by decide +kernel) rfl rfl rfl) ?_
  refine gm_sz (fw_gr (pc := 13) (ix := 14) (ci := 7) (j := 0) (r := 214) (by decide +kernel) (e0k hE (k := 213) (c := 7) (by decide +kernel)) (by decide +kernel) (by decide +kernel) (e0r hE (k := 213) (j := 0) (r := 214) (by decide +kernel))) ?_
  refine gm_sz (fw_gi (pc := 16) (ix := 31) (ci := 8) (j := 6) (x := (tx_k (M 2) e0 (tx_g (M 2) e0 0))) (by decide +kernel) (e0k hE (k := 214) (c := 8) (by decide +kernel)) (by decide +kernel) (by decide +kernel) hv9.2.2.2.2.2.1) ?_
  refine gm_sz (gm_p_const (pc := 19) (i := .sipush 256) (v := gm_vi 256) (by decide +kernel) (by decide +kernel)) ?_
  refine fw_ic (cc := .ne) (pc := 22) (off := 5) (by decide +kernel) (by decide) ⟨by omega, by omega⟩ ⟨by decide, by decide⟩ (fun h22 => ?_) (fun h22 => ?_)
  · have h22 : ¬ (tx_k (M 2) e0 (tx_g (M 2) e0 0)) = 256 := h22
    refine gm_sz (gm_p_const (pc := 27) (i := .iconst 0) (v := gm_vi 0) (by decide +kernel) (by decide +kernel)) ?_
    refine gm_sz (gm_p_stor (pc := 28) (i := .istore_n 2) (sr := 0) (j := 2) (by decide +kernel) rfl (show 3 ≤ _ from Nat.le_of_ble_eq_true rfl) rfl) ?_
    have ev : v_val (M 2) e0 N = v_txt (M 2) e0 14 N (tx_g (M 2) e0 0) := tif_f h22
    rw [ev] at q1 q0
    exact vy_72l (by omega) hE hF e0 14 0 _ N _ rfl (Int.le_refl _) (cst_fr (W := [((214 : Nat), some (2 : Int)), ((214 : Nat), some (3 : Int)), ((214 : Nat), some (4 : Int)), ((214 : Nat), some (5 : Int)), ((214 : Nat), some (6 : Int)), ((214 : Nat), some (7 : Int))]) hC (fr_t fr_0 hf9 (by decide)) (by decide +kernel)) hv9 hb ((cs_frd hf9 (by decide)).trans (hT)) hG (fun M2 k1 k2 k4 k5 => q1 M2 (fr_t (fr_t fr_0 hf9 (by decide)) k1 (by decide)) k2 k4 k5) (fun M2 k1 k2 k5 => q0 M2 (fr_t (fr_t fr_0 hf9 (by decide)) k1 (by decide)) k2 k5)
  · have h22 : (tx_k (M 2) e0 (tx_g (M 2) e0 0)) = 256 := Classical.not_not.mp h22
    refine gm_sz (gm_p_const (pc := 25) (i := .iconst (-1)) (v := gm_vi (-1)) (by decide +kernel) (by decide +kernel)) ?_
    have ev : v_val (M 2) e0 N = (true, tx_g (M 2) e0 0, N) := tif_t h22
    rw [ev] at q1
    exact gm_r_int (pc := 26) (by decide +kernel) (Or.inl (by decide +kernel)) (q1 _ (fr_t fr_0 hf9 (by decide)) (cst_fr (W := [((214 : Nat), some (2 : Int)), ((214 : Nat), some (3 : Int)), ((214 : Nat), some (4 : Int)), ((214 : Nat), some (5 : Int)), ((214 : Nat), some (6 : Int)), ((214 : Nat), some (7 : Int))]) hC (fr_t fr_0 hf9 (by decide)) (by decide +kernel)) ((cs_frd hf9 (by decide)).trans (hT)) rfl)
end V4A
end
/-! 7a41.v5vz -/
section
/-! THE CLASS'S valley(), whole (laid by wip/core/v5.py). -/
section V5A
variable {X : Int → Int} {LX d bc bs n : Nat} {K : gm_K} {R : gm_R} {M : gm_M} {Q : gm_Q} {f : Int → Int} {e b x i l r w t9 f9 t z : Int} {N : Int → Int}
theorem tif_o {P : Prop} {a c : Bool × Int × (Int → Int)} (ha : a.2.2 i = z) (hb : c.2.2 i = z) : (tif P a c).2.2 i = z := tif_i (α := Bool × Int × (Int → Int)) (C := fun q => q.2.2 i = z) ha hb
theorem tif_h {P : Prop} {a c : Bool × Int × (Int → Int)} (ha : 0 ≤ a.2.1 ∧ a.2.1 ≤ e) (hb : 0 ≤ c.2.1 ∧ c.2.1 ≤ e) : 0 ≤ (tif P a c).2.1 ∧ (tif P a c).2.1 ≤ e := tif_i (α := Bool × Int × (Int → Int)) (C := fun q => 0 ≤ q.2.1 ∧ q.2.1 ≤ e) ha hb
theorem v_sp_o : ∀ (t : Nat) (N : Int → Int) (a b : Int), i < a → (v_sp f e t N a b).2.2 i = N i := by
  intro t
  induction t with
  | zero => exact fun _ _ _ _ => rfl
  | succ t ih =>
    intro N a b h
    show (tif _ _ _ : Bool × Int × (Int → Int)).2.2 i = N i
    refine tif_o ?_ rfl
    rw [ih _ _ _ (by omega)]
    exact nup_ne (by omega)
theorem nper_o (hi : i < 95) (h3 : ¬ i = 3) (h0 : 0 ≤ N 3) : nper N l r w i = N i := by
  unfold nper
  rw [nup_ne (by omega), nup_ne (by omega), nup_ne (by omega), nup_ne (by omega)]
/-- a line leaves the year and the number of texts -/
theorem v_line_o (hN : NR N) (hi : i = 7 ∨ i = 9) : (v_line f e N b).2.2 i = N i := by
  obtain ⟨a2, a5, a3, a4, a6, -⟩ := hN.2.1
  unfold v_line
  refine tif_o ?_ (tif_o ?_ (tif_o ?_ (tif_o ?_ (tif_o ?_ (tif_o ?_ (tif_o ?_ (tif_o ?_ (tif_o ?_ (tif_o ?_ rfl)))))))))
  · unfold v_lanes
    refine tif_o (tif_o ?_ rfl) rfl
    show nup _ _ _ i = N i
    rw [nup_ne (by omega), nup_ne (by omega)]
  · unfold v_last
    refine tif_o (tif_o ?_ rfl) rfl
    show nup _ _ _ i = N i
    rw [nup_ne (by omega), nup_ne (by omega)]
  · unfold v_section
    refine tif_o rfl (tif_o ?_ rfl)
    rw [v_sp_o _ _ _ _ (by omega), nup_ne (by omega), nup_ne (by omega)]
  · unfold v_snow
    refine tif_o (tif_o (tif_o ?_ rfl) rfl) rfl
    show nup _ _ _ i = N i
    rw [nup_ne (by omega), nup_ne (by omega)]
  · unfold v_stripe
    refine tif_o ?_ rfl
    exact nup_ne (by omega)
  · unfold v_seed
    refine tif_o ?_ rfl
    exact nup_ne (by omega)
  · unfold v_flood
    refine tif_o rfl (tif_o (tif_o (tif_o ?_ rfl) rfl) rfl)
    show nup _ _ _ i = N i
    rw [nup_ne (by omega), nup_ne (by omega), nup_ne (by omega), nup_ne (by omega)]
  · unfold v_person
    refine tif_o rfl (tif_o (tif_o (tif_o (tif_o ?_ rfl) ?_) rfl) rfl)
    · exact nper_o (by omega) (by omega) a3.1
    · exact nper_o (by omega) (by omega) a3.1
  · unfold v_rock
    refine tif_o rfl (tif_o (tif_o ?_ rfl) rfl)
    exact nthr_o ⟨by omega, by omega⟩ (by omega) a4.1
  · unfold v_table
    refine tif_o rfl ?_
    rw [v_sp_o _ _ _ _ (by omega), nup_ne (by omega)]
theorem v_txt_o (hi : i = 7 ∨ i = 9) : ∀ (t : Nat) (N : Int → Int) (b : Int), GI N → 0 ≤ b ∧ b ≤ e → (v_txt f e t N b).2.2 i = N i := by
  intro t
  induction t with
  | zero => exact fun _ _ _ _ => rfl
  | succ t ih =>
    intro N b h hb
    have q := v_line_b (f := f) (N := N) hb
    by_cases h1 : (v_line f e N b).1 = true
    · by_cases h2 : tx_k f e (v_line f e N b).2.1 = 256
      · rw [show v_txt f e (t + 1) N b = v_line f e N b by show tif _ _ _ = _; rw [tif_t h1, tif_t h2]]
        exact v_line_o h.1 hi
      · by_cases h3 : tx_k f e (v_line f e N b).2.1 = 59
        · rw [show v_txt f e (t + 1) N b = v_txt f e t (v_line f e N b).2.2 (tx_n f e (v_line f e N b).2.1) by show tif _ _ _ = _; rw [tif_t h1, tif_f h2, tif_t h3]]
          have n1 := tx_nb (f := f) q.2
          rw [ih _ _ (v_line_g h hb h1) ⟨by omega, n1.2.1⟩]
          exact v_line_o h.1 hi
        · rw [show v_txt f e (t + 1) N b = (false, (v_line f e N b).2.1, N) by show tif _ _ _ = _; rw [tif_t h1, tif_f h2, tif_f h3]]
    · rw [show v_txt f e (t + 1) N b = (false, (v_line f e N b).2.1, N) from tif_f h1]
theorem v_txt_b : ∀ (t : Nat) (N : Int → Int) (b : Int), 0 ≤ b ∧ b ≤ e → 0 ≤ (v_txt f e t N b).2.1 ∧ (v_txt f e t N b).2.1 ≤ e := by
  intro t
  induction t with
  | zero => exact fun _ _ hb => hb
  | succ t ih =>
    intro N b hb
    have q := v_line_b (f := f) (N := N) hb
    have n1 := tx_nb (f := f) q.2
    show 0 ≤ (tif _ _ _ : Bool × Int × (Int → Int)).2.1 ∧ (tif _ _ _ : Bool × Int × (Int → Int)).2.1 ≤ e
    exact tif_h (tif_h ⟨by omega, q.2⟩ (tif_h (ih _ _ ⟨by omega, n1.2.1⟩) ⟨by show 0 ≤ (v_line f e N b).2.1; omega, q.2⟩)) ⟨by show 0 ≤ (v_line f e N b).2.1; omega, q.2⟩
theorem v_val_b (he : 0 ≤ e) : 0 ≤ (v_val f e N).2.1 ∧ (v_val f e N).2.1 ≤ e := by
  obtain ⟨g1, g2, -⟩ := tx_gb (f := f) he
  unfold v_val
  exact tif_h ⟨g1, g2⟩ (v_txt_b _ _ _ ⟨g1, g2⟩)
theorem v_val_o (h : GI N) (he : 0 ≤ e) (hi : i = 7 ∨ i = 9) : (v_val f e N).2.2 i = N i := by
  obtain ⟨g1, g2, -⟩ := tx_gb (f := f) he
  unfold v_val
  exact tif_o rfl (v_txt_o hi _ _ _ h ⟨g1, g2⟩)
/-- a text more -/
theorem gi_7 (h : GI N) (hx : 0 ≤ x ∧ x ≤ 12) : GI (nup N 7 x) := by
  obtain ⟨hN, hS, hg⟩ := h
  obtain ⟨⟨⟨a0, b0⟩, ⟨a1, b1⟩, ⟨a10, b10⟩, ⟨a11, b11⟩, ⟨a12, b12⟩, a9, b9⟩, ⟨⟨a2, b2⟩, ⟨a5, b5⟩, ⟨a3, b3⟩, ⟨a4, b4⟩, ⟨a6, b6⟩, ⟨a14, b14⟩, ⟨a7, b7⟩, a13, b13⟩, rF, rP, rL⟩ := id hN
  have e : ∀ j, ¬ j = 7 → nup N 7 x j = N j := fun j h => nup_ne h
  have e7 : nup N 7 x 7 = x := nup_at
  refine ⟨?_, ns_same hS (e 0 (by decide)) (e 2 (by decide)) (fun j h1 h2 => e j (by omega)) b2 b0, ?_⟩
  · unfold NR
    rw [e 4 (by decide), e 0 (by decide), e 1 (by decide), e 10 (by decide), e 11 (by decide), e 12 (by decide), e 9 (by decide), e 2 (by decide), e 5 (by decide), e 3 (by decide), e 6 (by decide), e 14 (by decide), e7, e 13 (by decide)]
    refine ⟨⟨⟨a0, b0⟩, ⟨a1, b1⟩, ⟨a10, b10⟩, ⟨a11, b11⟩, ⟨a12, b12⟩, a9, b9⟩, ⟨⟨a2, b2⟩, ⟨a5, b5⟩, ⟨a3, b3⟩, ⟨a4, b4⟩, ⟨a6, b6⟩, ⟨a14, b14⟩, hx, a13, b13⟩, fun q h0 h1 => ?_, fun q h0 h1 => ?_, fun q h0 h1 => ?_⟩
    · rw [e (71 + (q * 3 + 0)) (by omega), e (71 + (q * 3 + 1)) (by omega), e (71 + (q * 3 + 2)) (by omega)]
      exact rF q h0 h1
    · rw [e (95 + (q * 3 + 0)) (by omega), e (95 + (q * 3 + 1)) (by omega), e (95 + (q * 3 + 2)) (by omega)]
      exact rP q h0 h1
    · rw [e (119 + (q * 7 + 0)) (by omega), e (119 + (q * 7 + 1)) (by omega), e (119 + (q * 7 + 2)) (by omega), e (119 + (q * 7 + 3)) (by omega), e (119 + (q * 7 + 4)) (by omega), e (119 + (q * 7 + 5)) (by omega), e (119 + (q * 7 + 6)) (by omega)]
      exact rL q h0 h1
  · show nup N 7 x 14 = nop (nup N 7 x) (nup N 7 x 4).toNat
    rw [e 14 (by decide), e 4 (by decide), nop_e (N := N) (N 4).toNat (fun u hu => by rw [e _ (by omega)])]
    exact hg
theorem vy_71 (hd : 14 ≤ d) (hbc : 4 ≤ bc) (hbs : 24 ≤ bs) (hE : E0 n K R) (hC : CST M) (hF : VF (M 2) (M 1 1)) (h4 : M 214 1 = 4) (h13 : M 213 1 = 14) (hT : cs M 3 = N) (hG : GI N) (q0 : ∀ M2, (∀ (x : Nat) (j : Int), x < 16 ∨ 28 < x → ¬ x = 214 → ¬ (x = 1 ∧ (j = 1 ∨ j = 2)) → M2 x j = M x j) → CST M2 → cs M2 3 = N → ¬ (v_val (M 2) (M 1 1) N).1 = true → M2 1 2 = (v_val (M 2) (M 1 1) N).2.1 → M2 1 1 = 0 → Q (.inr 0) n K (gm_uR R 16 8 (R 3 8)) M2) (q1 : ∀ M2, (∀ (x : Nat) (j : Int), x < 16 ∨ 28 < x → ¬ x = 214 → ¬ (x = 1 ∧ (j = 1 ∨ j = 2)) → M2 x j = M x j) → CST M2 → cs M2 3 = N → (v_val (M 2) (M 1 1) N).1 = true → N 7 = 12 → M2 1 2 = -1 → M2 1 1 = 0 → Q (.inr 1) n K (gm_uR R 16 8 (R 3 8)) M2) (hq : ∀ M2, (v_val (M 2) (M 1 1) N).1 = true → N 7 < 12 → GI (nup (v_val (M 2) (M 1 1) N).2.2 7 (N 7 + 1)) → TI (nup (v_val (M 2) (M 1 1) N).2.2 7 (N 7 + 1)) (hts ((nup (v_val (M 2) (M 1 1) N).2.2 7 (N 7 + 1)) 13)) (spd (nup (v_val (M 2) (M 1 1) N).2.2 7 (N 7 + 1))) M2 → M2 200 6 = 1 → M2 42 2 = 0 → M2 1 15 = 0 → M2 1 2 = -1 → M2 1 1 = 0 → (∀ (x : Nat) (j : Int), x < 3 ∨ 28 < x → ¬ x = 214 → ¬ x = 201 → ¬ x = 202 → ¬ x = 203 → ¬ (x = 200 ∧ j = 6) → ¬ (x = 42 ∧ j = 2) → ¬ (x = 1 ∧ (j = 1 ∨ j = 2 ∨ j = 15)) → M2 x j = M x j) → Q (.inl (some (gm_vi (N 7 + 1)))) n K (gm_uR (gm_uR R 16 8 (R 3 8)) 3 8 ((gm_uR R 16 8 (R 3 8)) 16 8)) M2) : gm_Wp X LX d bc bs 71 0 (gm_ent 71 [gm_vr 1]) [] n K R M Q := by
  have hN := hG.1
  have he9 := hF.1
  have b7 := hN.2.1.2.2.2.2.2.2.1
  have hvb := v_val_b (f := M 2) (e := M 1 1) (N := N) hF.1.1
  have v7 : (v_val (M 2) (M 1 1) N).2.2 7 = N 7 := v_val_o hG hF.1.1 (Or.inl rfl)
  have hVG : (v_val (M 2) (M 1 1) N).1 = true → GI (v_val (M 2) (M 1 1) N).2.2 := fun h => v_val_g hG hF.1.1 h
  refine gm_sz (gm_p_load (pc := 0) (i := .aload_n 0) (sr := 2) (j := 0) (by decide +kernel) rfl rfl rfl) ?_
  refine gm_sz (fw_gr (pc := 1) (ix := 27) (ci := 0) (j := 4) (r := 16) (by decide +kernel) (e0k hE (k := 1) (c := 0) (by decide +kernel)) (by decide +kernel) (by decide +kernel) (e0r hE (k := 1) (j := 4) (r := 16) (by decide +kernel))) ?_
  refine gm_sz (gm_p_load (pc := 4) (i := .aload_n 0) (sr := 2) (j := 0) (by decide +kernel) rfl rfl rfl) ?_
  refine gm_sz (fw_gr (pc := 5) (ix := 23) (ci := 0) (j := 3) (r := 3) (by decide +kernel) (e0k hE (k := 1) (c := 0) (by decide +kernel)) (by decide +kernel) (by decide +kernel) (e0r hE (k := 1) (j := 3) (r := 3) (by decide +kernel))) ?_
  refine gm_c_virt (k := 16) (ci := 1) (mj := 57) (ix := 114) (pc := 8) (as := [gm_vr 3]) (st := []) (d' := d - 1) (bc' := 0) (bs' := 0) (by decide +kernel) (by decide +kernel) (by decide +kernel) (by decide +kernel) (e0k hE (k := 16) (c := 1) (by decide +kernel)).1 (e0k hE (k := 16) (c := 1) (by decide +kernel)).2 (by decide) (by decide +kernel) (show 1 = gm_na 57 by decide +kernel) (fw_c1 fw_sr) (show 2 ≤ gm_ml 57 by decide +kernel) (Nat.le_of_ble_eq_true rfl) (by omega) (Nat.zero_le _) (Nat.zero_le _) ?_
  refine st_copy (b := 16) (s := 3) (by omega) (ks_16 hE) (ks_3 hE) (by omega) (mx_16 hC) (sz_cs hN hT) (fun M8 hx8 hy8 hc8 => ?_)
  show gm_Wp X LX d _ _ 71 11 _ [] n K _ _ Q
  have t8 : CST M8 := cst_cpy0 cst_cpd hC ⟨hx8, hy8, hc8⟩
  have e28 : M8 2 = M 2 := funext fun j => hx8 2 j (by omega)
  have h48 : M8 214 1 = 4 := (hx8 _ _ (by omega)).trans h4
  have h138 : M8 213 1 = 14 := (hx8 _ _ (by omega)).trans h13
  have hd8 : cs M8 16 = N := hc8.trans hT
  refine gm_sz (gm_p_load (pc := 11) (i := .aload_n 0) (sr := 2) (j := 0) (by decide +kernel) rfl rfl rfl) ?_
  refine gm_sz (gm_p_load (pc := 12) (i := .aload_n 0) (sr := 2) (j := 0) (by decide +kernel) rfl rfl rfl) ?_
  refine gm_sz (fw_gr (pc := 13) (ix := 79) (ci := 0) (j := 12) (r := 213) (by decide +kernel) (e0k hE (k := 1) (c := 0) (by decide +kernel)) (by decide +kernel) (by decide +kernel) (e0r (e0h16 hE) (k := 1) (j := 12) (r := 213) (by decide +kernel))) ?_
  refine gm_sz (gm_p_load (pc := 16) (i := .aload_n 0) (sr := 2) (j := 0) (by decide +kernel) rfl rfl rfl) ?_
  refine gm_sz (fw_gi (pc := 17) (ix := 13) (ci := 0) (j := 1) (x := M 1 1) (by decide +kernel) (e0k hE (k := 1) (c := 0) (by decide +kernel)) (by decide +kernel) (by decide +kernel) ((hx8 _ _ (by omega)).trans rfl)) ?_
  refine gm_c_up (k := 213) (ci := 7) (mj := 72) (ix := 117) (pc := 20) (as := [gm_vi (M 1 1)]) (st := [gm_vr 1]) (d' := d - 1) (bc' := 0) (bs' := 0) (by decide +kernel) (by decide +kernel) (by decide +kernel) (e0k hE (k := 213) (c := 7) (by decide +kernel)).1 (e0k hE (k := 213) (c := 7) (by decide +kernel)).2 (show 1 = gm_na 72 by decide +kernel) (fw_c1 fw_si) (show 2 ≤ gm_ml 72 by decide +kernel) (Nat.le_of_ble_eq_true rfl) (by omega) (Nat.zero_le _) (Nat.zero_le _) ?_
  refine vy_72 (by omega) (e0h16 hE) t8 e28 hF h48 h138 hd8 hG (fun M20 hf20 hc20 hv20 hk20 => ?_) (fun M20 hf20 hc20 hk20 => ?_)
  · show gm_Wp X LX d _ _ 71 23 _ [gm_vi (-1), gm_vr 1] n K _ _ Q
    have t20 : TQ N M20 := ⟨hc20, (cs_same fun x j x1 x2 => (hf20 x j (by intro hm; simp at hm; omega) (by intro hm; simp at hm; omega)).trans (hx8 x j (by omega))).trans hT⟩
    refine gm_sz (fw_pi (pc := 23) (ix := 17) (ci := 0) (j := 2) (M' := gm_uM M20 1 2 (-1)) (by decide +kernel) (e0k hE (k := 1) (c := 0) (by decide +kernel)) (by decide +kernel) (by decide +kernel) (by decide +kernel) rfl) ?_
    refine gm_sz (gm_p_load (pc := 26) (i := .aload_n 0) (sr := 2) (j := 0) (by decide +kernel) rfl rfl rfl) ?_
    refine gm_sz (gm_p_const (pc := 27) (i := .iconst 0) (v := gm_vi 0) (by decide +kernel) (by decide +kernel)) ?_
    refine gm_sz (fw_pi (pc := 28) (ix := 13) (ci := 0) (j := 1) (M' := gm_uM (gm_uM M20 1 2 (-1)) 1 1 0) (by decide +kernel) (e0k hE (k := 1) (c := 0) (by decide +kernel)) (by decide +kernel) (by decide +kernel) (by decide +kernel) rfl) ?_
    refine gm_sz (gm_p_load (pc := 31) (i := .aload_n 0) (sr := 2) (j := 0) (by decide +kernel) rfl rfl rfl) ?_
    refine gm_sz (fw_gi (pc := 32) (ix := 17) (ci := 0) (j := 2) (x := (-1)) (by decide +kernel) (e0k hE (k := 1) (c := 0) (by decide +kernel)) (by decide +kernel) (by decide +kernel) ((uM_ne (by omega)).trans uM_at)) ?_
    refine gm_sz (gm_p_const (pc := 35) (i := .iconst (-1)) (v := gm_vi (-1)) (by decide +kernel) (by decide +kernel)) ?_
    refine fw_ictd (cc := .eq) (pc := 36) (off := 13) (by decide +kernel) (by decide) ⟨by decide, by decide⟩ ⟨by decide, by decide⟩ (by decide) ?_
    refine gm_sz (gm_p_load (pc := 49) (i := .aload_n 0) (sr := 2) (j := 0) (by decide +kernel) rfl rfl rfl) ?_
    refine gm_sz (fw_gr (pc := 50) (ix := 23) (ci := 0) (j := 3) (r := 3) (by decide +kernel) (e0k hE (k := 1) (c := 0) (by decide +kernel)) (by decide +kernel) (by decide +kernel) (e0r (e0h16 hE) (k := 1) (j := 3) (r := 3) (by decide +kernel))) ?_
    refine gm_sz (fw_gi (pc := 53) (ix := 128) (ci := 1) (j := 7) (x := N 7) (by decide +kernel) (e0k hE (k := 3) (c := 1) (by decide +kernel)) (by decide +kernel) (by decide +kernel) ((uM_ne (by omega)).trans ((uM_ne (by omega)).trans (congrFun t20.2 7)))) ?_
    refine gm_sz (gm_p_const (pc := 56) (i := .bipush 12) (v := gm_vi 12) (by decide +kernel) (by decide +kernel)) ?_
    refine fw_ic (cc := .lt) (pc := 58) (off := 13) (by decide +kernel) (by decide) ⟨by omega, by omega⟩ ⟨by decide, by decide⟩ (fun h58 => ?_) (fun h58 => ?_)
    · have h58 : (N 7) < 12 := h58
      refine gm_sz (gm_p_load (pc := 71) (i := .aload_n 0) (sr := 2) (j := 0) (by decide +kernel) rfl rfl rfl) ?_
      refine gm_sz (fw_gr (pc := 72) (ix := 23) (ci := 0) (j := 3) (r := 3) (by decide +kernel) (e0k hE (k := 1) (c := 0) (by decide +kernel)) (by decide +kernel) (by decide +kernel) (e0r (e0h16 hE) (k := 1) (j := 3) (r := 3) (by decide +kernel))) ?_
      refine gm_sz (gm_p_load (pc := 75) (i := .aload_n 0) (sr := 2) (j := 0) (by decide +kernel) rfl rfl rfl) ?_
      refine gm_sz (fw_gr (pc := 76) (ix := 27) (ci := 0) (j := 4) (r := 16) (by decide +kernel) (e0k hE (k := 1) (c := 0) (by decide +kernel)) (by decide +kernel) (by decide +kernel) (e0r (e0h16 hE) (k := 1) (j := 4) (r := 16) (by decide +kernel))) ?_
      refine gm_c_virt (k := 3) (ci := 1) (mj := 57) (ix := 114) (pc := 79) (as := [gm_vr 16]) (st := []) (d' := d - 1) (bc' := 0) (bs' := 0) (by decide +kernel) (by decide +kernel) (by decide +kernel) (by decide +kernel) (e0k hE (k := 3) (c := 1) (by decide +kernel)).1 (e0k hE (k := 3) (c := 1) (by decide +kernel)).2 (by decide) (by decide +kernel) (show 1 = gm_na 57 by decide +kernel) (fw_c1 fw_sr) (show 2 ≤ gm_ml 57 by decide +kernel) (Nat.le_of_ble_eq_true rfl) (by omega) (Nat.zero_le _) (Nat.zero_le _) ?_
      refine st_copy (b := 3) (s := 16) (by omega) (ks_3 (e0h16 hE)) (ks_16 (e0h16 hE)) (by omega) (mx_3 (cst_fr (W := [((1 : Nat), some (2 : Int)), ((1 : Nat), some (1 : Int))]) t20.1 (fr_p (fr_p fr_0 (Or.inr (by decide))) (Or.inr (by decide))) (by decide +kernel))) (sz_cs (hVG hk20).1 ((cs_el (by omega)).trans ((cs_el (by omega)).trans hv20))) (fun M79 hx79 hy79 hc79 => ?_)
      show gm_Wp X LX d _ _ 71 82 _ [] n K _ _ Q
      have t79 : TQ (v_val (M 2) (M 1 1) N).2.2 M79 := ⟨cst_cpy0 (List.all_eq_true.mp cst_cpf 3 (by decide)) (cst_fr (W := [((1 : Nat), some (2 : Int)), ((1 : Nat), some (1 : Int))]) t20.1 (fr_p (fr_p fr_0 (Or.inr (by decide))) (Or.inr (by decide))) (by decide +kernel)) ⟨hx79, hy79, hc79⟩, hc79.trans ((cs_el (by omega)).trans ((cs_el (by omega)).trans hv20))⟩
      refine gm_sz (gm_p_load (pc := 82) (i := .aload_n 0) (sr := 2) (j := 0) (by decide +kernel) rfl rfl rfl) ?_
      refine gm_sz (fw_gr (pc := 83) (ix := 23) (ci := 0) (j := 3) (r := 3) (by decide +kernel) (e0k hE (k := 1) (c := 0) (by decide +kernel)) (by decide +kernel) (by decide +kernel) (e0r (e0h3 (e0h16 hE)) (k := 1) (j := 3) (r := 3) (by decide +kernel))) ?_
      refine gm_sz (gm_p_dup (pc := 86) (by decide +kernel) fw_sr) ?_
      refine gm_sz (fw_gi (pc := 87) (ix := 128) (ci := 1) (j := 7) (x := N 7) (by decide +kernel) (e0k hE (k := 3) (c := 1) (by decide +kernel)) (by decide +kernel) (by decide +kernel) ((congrFun t79.2 7).trans v7)) ?_
      refine gm_sz (gm_p_const (pc := 90) (i := .iconst 1) (v := gm_vi 1) (by decide +kernel) (by decide +kernel)) ?_
      refine gm_sz (gm_p_bin (pc := 91) (i := .iadd) (f := fun x y => x + y) (by decide +kernel) rfl) ?_
      refine gm_sz (fw_pi (pc := 92) (ix := 128) (ci := 1) (j := 7) (M' := gm_uM M79 3 7 ((N 7) + 1)) (by decide +kernel) (e0k hE (k := 3) (c := 1) (by decide +kernel)) (by decide +kernel) (by decide +kernel) (by decide +kernel) rfl) ?_
      have g92 : GI (nup (v_val (M 2) (M 1 1) N).2.2 7 (N 7 + 1)) := gi_7 (hVG hk20) ⟨by omega, by omega⟩
      have t92 : TQ (nup (v_val (M 2) (M 1 1) N).2.2 7 (N 7 + 1)) (gm_uM M79 3 7 ((N 7) + 1)) := ⟨(cst_fr (W := [((3 : Nat), some (7 : Int))]) t79.1 (fr_p fr_0 (Or.inr (by decide))) (by decide +kernel)), (cs_f7 (b := 3)).trans (congrArg (fun V9 => nup V9 7 (N 7 + 1)) t79.2)⟩
      refine gm_sz (gm_p_load (pc := 95) (i := .aload_n 0) (sr := 2) (j := 0) (by decide +kernel) rfl rfl rfl) ?_
      refine gm_c_virt (k := 1) (ci := 0) (mj := 61) (ix := 136) (pc := 96) (as := []) (st := []) (d' := d - 1) (bc' := 0) (bs' := 0) (by decide +kernel) (by decide +kernel) (by decide +kernel) (by decide +kernel) (e0k hE (k := 1) (c := 0) (by decide +kernel)).1 (e0k hE (k := 1) (c := 0) (by decide +kernel)).2 (by decide) (by decide +kernel) (show 0 = gm_na 61 by decide +kernel) fw_c0 (show 1 ≤ gm_ml 61 by decide +kernel) (Nat.le_of_ble_eq_true rfl) (by omega) (Nat.zero_le _) (Nat.zero_le _) ?_
      refine fw_c61 (by omega) (e0h3 (e0h16 hE)) t92 g92.1 g92.2.1 (fun M96 hf96 ht96 h6 h42 h15 => ?_)
      show gm_Wp X LX d _ _ 71 99 _ [] n K _ _ Q
      refine gm_sz (gm_p_load (pc := 99) (i := .aload_n 0) (sr := 2) (j := 0) (by decide +kernel) rfl rfl rfl) ?_
      refine gm_sz (fw_gr (pc := 100) (ix := 23) (ci := 0) (j := 3) (r := 3) (by decide +kernel) (e0k hE (k := 1) (c := 0) (by decide +kernel)) (by decide +kernel) (by decide +kernel) (e0r (e0h3 (e0h16 hE)) (k := 1) (j := 3) (r := 3) (by decide +kernel))) ?_
      refine gm_sz (fw_gi (pc := 103) (ix := 128) (ci := 1) (j := 7) (x := (N 7 + 1)) (by decide +kernel) (e0k hE (k := 3) (c := 1) (by decide +kernel)) (by decide +kernel) (by decide +kernel) ((congrFun ht96.2.1 7).trans nup_at)) ?_
      exact gm_r_int (pc := 106) (by decide +kernel) (Or.inl (by decide +kernel)) (hq _ hk20 (by omega) g92 ht96 h6 h42 h15 ((hf96 1 2 (by decide) (by decide)).trans ((uM_ne (by omega)).trans ((hx79 1 2 (by omega)).trans ((uM_ne (by omega)).trans uM_at)))) ((hf96 1 1 (by decide) (by decide)).trans ((uM_ne (by omega)).trans ((hx79 1 1 (by omega)).trans uM_at))) (fun x j hx h1 h2 h3 h4 h5 h7 h8 => ((hf96 x j (by intro hm; simp at hm; omega) (by intro hm; simp at hm; omega)).trans ((uM_ne (by omega)).trans ((hx79 x j (by omega)).trans ((uM_ne (by omega)).trans ((uM_ne (by omega)).trans ((hf20 x j (by intro hm; simp at hm; omega) (by intro hm; simp at hm; omega)).trans (hx8 x j (by omega))))))))))
    · have h58 : ¬ (N 7) < 12 := h58
      exact gm_throw (ik := 131) (is := 133) (ic := 135) (x := 1) (id := 30) (lw := false) (by decide +kernel) (by decide +kernel) (by decide +kernel) (by decide +kernel) (by decide +kernel) (by decide +kernel) (by decide +kernel) (by decide +kernel) (Nat.le_of_ble_eq_true rfl) (by omega) (by omega) (by omega) (q1 _ (fun x j hx h1 h2 => (uM_ne (by omega)).trans ((uM_ne (by omega)).trans ((hf20 x j (by intro hm; simp at hm; omega) (by intro hm; simp at hm; omega)).trans (hx8 x j (by omega))))) (cst_fr (W := [((1 : Nat), some (2 : Int)), ((1 : Nat), some (1 : Int))]) t20.1 (fr_p (fr_p fr_0 (Or.inr (by decide))) (Or.inr (by decide))) (by decide +kernel)) ((cs_el (by omega)).trans ((cs_el (by omega)).trans t20.2)) hk20 (by omega) ((uM_ne (by omega)).trans uM_at) uM_at)
  · show gm_Wp X LX d _ _ 71 23 _ [gm_vi ((v_val (M 2) (M 1 1) N).2.1), gm_vr 1] n K _ _ Q
    have t20 : TQ N M20 := ⟨hc20, (cs_same fun x j x1 x2 => (hf20 x j (by intro hm; simp at hm; omega) (by intro hm; simp at hm; omega)).trans (hx8 x j (by omega))).trans hT⟩
    refine gm_sz (fw_pi (pc := 23) (ix := 17) (ci := 0) (j := 2) (M' := gm_uM M20 1 2 ((v_val (M 2) (M 1 1) N).2.1)) (by decide +kernel) (e0k hE (k := 1) (c := 0) (by decide +kernel)) (by decide +kernel) (by decide +kernel) (by decide +kernel) rfl) ?_
    refine gm_sz (gm_p_load (pc := 26) (i := .aload_n 0) (sr := 2) (j := 0) (by decide +kernel) rfl rfl rfl) ?_
    refine gm_sz (gm_p_const (pc := 27) (i := .iconst 0) (v := gm_vi 0) (by decide +kernel) (by decide +kernel)) ?_
    refine gm_sz (fw_pi (pc := 28) (ix := 13) (ci := 0) (j := 1) (M' := gm_uM (gm_uM M20 1 2 ((v_val (M 2) (M 1 1) N).2.1)) 1 1 0) (by decide +kernel) (e0k hE (k := 1) (c := 0) (by decide +kernel)) (by decide +kernel) (by decide +kernel) (by decide +kernel) rfl) ?_
    refine gm_sz (gm_p_load (pc := 31) (i := .aload_n 0) (sr := 2) (j := 0) (by decide +kernel) rfl rfl rfl) ?_
    refine gm_sz (fw_gi (pc := 32) (ix := 17) (ci := 0) (j := 2) (x := (v_val (M 2) (M 1 1) N).2.1) (by decide +kernel) (e0k hE (k := 1) (c := 0) (by decide +kernel)) (by decide +kernel) (by decide +kernel) ((uM_ne (by omega)).trans uM_at)) ?_
    refine gm_sz (gm_p_const (pc := 35) (i := .iconst (-1)) (v := gm_vi (-1)) (by decide +kernel) (by decide +kernel)) ?_
    refine fw_ic (cc := .eq) (pc := 36) (off := 13) (by decide +kernel) (by decide) ⟨by omega, by omega⟩ ⟨by decide, by decide⟩ (fun h36 => ?_) (fun h36 => ?_)
    · have h36 : ((v_val (M 2) (M 1 1) N).2.1) = (-1) := h36
      exact absurd h36 (by omega)
    · have h36 : ¬ ((v_val (M 2) (M 1 1) N).2.1) = (-1) := h36
      exact gm_throw (ik := 121) (is := 123) (ic := 125) (x := 0) (id := 29) (lw := false) (by decide +kernel) (by decide +kernel) (by decide +kernel) (by decide +kernel) (by decide +kernel) (by decide +kernel) (by decide +kernel) (by decide +kernel) (Nat.le_of_ble_eq_true rfl) (by omega) (by omega) (by omega) (q0 _ (fun x j hx h1 h2 => (uM_ne (by omega)).trans ((uM_ne (by omega)).trans ((hf20 x j (by intro hm; simp at hm; omega) (by intro hm; simp at hm; omega)).trans (hx8 x j (by omega))))) (cst_fr (W := [((1 : Nat), some (2 : Int)), ((1 : Nat), some (1 : Int))]) t20.1 (fr_p (fr_p fr_0 (Or.inr (by decide))) (Or.inr (by decide))) (by decide +kernel)) ((cs_el (by omega)).trans ((cs_el (by omega)).trans t20.2)) hk20 ((uM_ne (by omega)).trans uM_at) uM_at)
end V5A
end
