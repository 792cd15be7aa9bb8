/-! 79i.rw -/
section
/-! THE REFERENCE'S READER: its memory, what always holds, words (laid by wip/pp/p5r.py). -/
/-- the reader's memory: point, begin, deep, steps; the world -/
def rm (M : gm_M) (pt bg dp st : Int) (W : Int → Int) : gm_M := fun a j => if a = 226 then (if j = 9 then pt else if j = 11 then bg else if j = 12 then dp else if j = 15 then st else M a j) else if a = 227 then W j else M a j
section RM
variable {M : gm_M} {pt bg dp st x j0 : Int} {W : Int → Int}
theorem rm_pt : gm_uM (rm M pt bg dp st W) 226 ((9 : Nat) : Int) x = rm M x bg dp st W := by
  show gm_uM (rm M pt bg dp st W) 226 9 x = rm M x bg dp st W
  funext a j
  by_cases ha : a = 226 <;> by_cases hj : j = 9 <;> simp [gm_uM, rm, ha, hj]
theorem rm_bg : gm_uM (rm M pt bg dp st W) 226 ((11 : Nat) : Int) x = rm M pt x dp st W := by
  show gm_uM (rm M pt bg dp st W) 226 11 x = rm M pt x dp st W
  funext a j
  by_cases ha : a = 226 <;> by_cases hj : j = 11 <;> simp [gm_uM, rm, ha, hj]
theorem rm_dp : gm_uM (rm M pt bg dp st W) 226 ((12 : Nat) : Int) x = rm M pt bg x st W := by
  show gm_uM (rm M pt bg dp st W) 226 12 x = rm M pt bg x st W
  funext a j
  by_cases ha : a = 226 <;> by_cases hj : j = 12 <;> simp [gm_uM, rm, ha, hj]
theorem rm_st : gm_uM (rm M pt bg dp st W) 226 ((15 : Nat) : Int) x = rm M pt bg dp x W := by
  show gm_uM (rm M pt bg dp st W) 226 15 x = rm M pt bg dp x W
  funext a j
  by_cases ha : a = 226 <;> by_cases hj : j = 15 <;> simp [gm_uM, rm, ha, hj]
theorem rm_W : gm_uM (rm M pt bg dp st W) 227 j0 x = rm M pt bg dp st (fun z => if z = j0 then x else W z) := by
  funext a j
  by_cases ha : a = 227 <;> by_cases hj : j = j0 <;> simp [gm_uM, rm, ha, hj]
theorem rm_id : rm M (M 226 9) (M 226 11) (M 226 12) (M 226 15) (M 227) = M := by
  funext a j
  unfold rm
  by_cases h1 : a = 226
  · subst h1
    by_cases g1 : j = 9
    · subst g1; rfl
    by_cases g2 : j = 11
    · subst g2; rfl
    by_cases g3 : j = 12
    · subst g3; rfl
    by_cases g4 : j = 15
    · subst g4; rfl
    rw [if_pos rfl, if_neg g1, if_neg g2, if_neg g3, if_neg g4]
  rw [if_neg h1]
  by_cases h2 : a = 227
  · subst h2; rfl
  rw [if_neg h2]
end RM
/-- what stays while a text is read -/
def tR (n : Nat) (K : gm_K) (R : gm_R) (M : gm_M) (e : Int) : Prop := (((1 ≤ 226 ∧ 226 ≤ n) ∧ K 226 = (15, 0)) ∧ ((1 ≤ 227 ∧ 227 ≤ n) ∧ K 227 = (0, 2093)) ∧ (1 ≤ 231 ∧ 231 ≤ n) ∧ K 231 = (1, 400)) ∧ (R 226 1 = 227 ∧ R 226 7 = 231) ∧ (M 226 10 = e ∧ 0 ≤ e ∧ e ≤ 400) ∧ ∀ j, 0 ≤ j → j < 400 → -128 ≤ M 231 j ∧ M 231 j ≤ 127
section TR
variable {n : Nat} {K : gm_K} {R : gm_R} {M : gm_M} {e : Int}
theorem tR226 (h : tR n K R M e) : (1 ≤ 226 ∧ 226 ≤ n) ∧ (K 226).1 = 11 + 4 := ⟨h.1.1.1, by rw [h.1.1.2]⟩
theorem tR227 (h : tR n K R M e) : (1 ≤ 227 ∧ 227 ≤ n) ∧ K 227 = (0, 2093) := h.1.2.1
theorem tR231 (h : tR n K R M e) : (1 ≤ 231 ∧ 231 ≤ n) ∧ K 231 = (1, 400) := h.1.2.2
theorem tRr (h : tR n K R M e) : R 226 1 = 227 ∧ R 226 7 = 231 := h.2.1
theorem tRe (h : tR n K R M e) : M 226 10 = e ∧ 0 ≤ e ∧ e ≤ 400 := h.2.2.1
theorem tRb (h : tR n K R M e) {j : Int} (h1 : 0 ≤ j) (h2 : j < 400) : -128 ≤ M 231 j ∧ M 231 j ≤ 127 := h.2.2.2 j h1 h2
end TR
section RW
variable {X : Int → Int} {LX d bc bs n : Nat} {K : gm_K} {R : gm_R} {M : gm_M} {Q : gm_Q} {e pt bg dp st lo hi b : Int} {W : Int → Int} {c : Nat} {l : List Int}
theorem tr_c246 (hE : tR n K R M e) (hl : gm_ir lo) (hh : gm_ir hi) (hp : 0 ≤ pt ∧ pt ≤ e) (h1 : pt < e → lo ≤ M 231 pt → M 231 pt ≤ hi → Q (.inl (some (gm_vi 1))) n K R (rm M pt bg dp st W)) (h0 : ¬ (pt < e ∧ lo ≤ M 231 pt ∧ M 231 pt ≤ hi) → Q (.inl (some (gm_vi 0))) n K R (rm M pt bg dp st W)) : gm_Wp X LX d bc bs 246 0 (gm_ent 246 [gm_vr 226, gm_vi lo, gm_vi hi]) [] n K R (rm M pt bg dp st W) Q := by
  obtain ⟨-, he0, he4⟩ := tRe hE
  obtain ⟨hl1, hl2⟩ := hl
  obtain ⟨hh1, hh2⟩ := hh
  refine gm_sz (gm_p_load (pc := 0) (i := .aload_n 0) (sr := 2) (j := 0) (by decide +kernel) rfl rfl rfl) ?_
  refine gm_sz (fw_gi (pc := 1) (ix := 106) (ci := 11) (j := 9) (x := pt) (by decide +kernel) (tR226 hE) (by decide +kernel) (by decide +kernel) rfl) ?_
  refine gm_sz (gm_p_load (pc := 4) (i := .aload_n 0) (sr := 2) (j := 0) (by decide +kernel) rfl rfl rfl) ?_
  refine gm_sz (fw_gi (pc := 5) (ix := 109) (ci := 11) (j := 10) (x := e) (by decide +kernel) (tR226 hE) (by decide +kernel) (by decide +kernel) (tRe hE).1) ?_
  refine fw_ic (cc := .ge) (pc := 8) (off := 33) (by decide +kernel) (by decide) ⟨by omega, by omega⟩ ⟨by omega, by omega⟩ (fun j1 => ?_) (fun j1 => ?_)
  · have j1 : e ≤ pt := j1
    refine gm_sz (gm_p_const (pc := 41) (i := .iconst 0) (v := gm_vi 0) (by decide +kernel) (by decide +kernel)) ?_
    exact gm_r_int (pc := 42) (by decide +kernel) (Or.inr ⟨(by decide +kernel), Or.inl rfl⟩) (h0 (by omega))
  · have j1 : ¬ e ≤ pt := j1
    refine gm_sz (gm_p_load (pc := 11) (i := .aload_n 0) (sr := 2) (j := 0) (by decide +kernel) rfl rfl rfl) ?_
    refine gm_sz (fw_gr (pc := 12) (ix := 26) (ci := 11) (j := 7) (r := 231) (by decide +kernel) (tR226 hE) (by decide +kernel) (by decide +kernel) (tRr hE).2) ?_
    refine gm_sz (gm_p_load (pc := 15) (i := .aload_n 0) (sr := 2) (j := 0) (by decide +kernel) rfl rfl rfl) ?_
    refine gm_sz (fw_gi (pc := 16) (ix := 106) (ci := 11) (j := 9) (x := pt) (by decide +kernel) (tR226 hE) (by decide +kernel) (by decide +kernel) rfl) ?_
    refine gm_sz (fw_ba (pc := 19) (k := 231) (len := 400) (e0 := pt) (x := M 231 pt) (by decide +kernel) (tR231 hE).1 (tR231 hE).2 (by decide) ⟨by omega, by omega⟩ rfl) ?_
    have y2 := tRb hE (j := pt) (by omega) (by omega)
    refine gm_sz (gm_p_load (pc := 20) (i := .iload_n 1) (sr := 0) (j := 1) (by decide +kernel) rfl rfl rfl) ?_
    refine fw_ic (cc := .lt) (pc := 21) (off := 20) (by decide +kernel) (by decide) ⟨by omega, by omega⟩ ⟨by omega, by omega⟩ (fun j3 => ?_) (fun j3 => ?_)
    · have j3 : (M 231 pt) < lo := j3
      refine gm_sz (gm_p_const (pc := 41) (i := .iconst 0) (v := gm_vi 0) (by decide +kernel) (by decide +kernel)) ?_
      exact gm_r_int (pc := 42) (by decide +kernel) (Or.inr ⟨(by decide +kernel), Or.inl rfl⟩) (h0 (by omega))
    · have j3 : ¬ (M 231 pt) < lo := j3
      refine gm_sz (gm_p_load (pc := 24) (i := .aload_n 0) (sr := 2) (j := 0) (by decide +kernel) rfl rfl rfl) ?_
      refine gm_sz (fw_gr (pc := 25) (ix := 26) (ci := 11) (j := 7) (r := 231) (by decide +kernel) (tR226 hE) (by decide +kernel) (by decide +kernel) (tRr hE).2) ?_
      refine gm_sz (gm_p_load (pc := 28) (i := .aload_n 0) (sr := 2) (j := 0) (by decide +kernel) rfl rfl rfl) ?_
      refine gm_sz (fw_gi (pc := 29) (ix := 106) (ci := 11) (j := 9) (x := pt) (by decide +kernel) (tR226 hE) (by decide +kernel) (by decide +kernel) rfl) ?_
      refine gm_sz (fw_ba (pc := 32) (k := 231) (len := 400) (e0 := pt) (x := M 231 pt) (by decide +kernel) (tR231 hE).1 (tR231 hE).2 (by decide) ⟨by omega, by omega⟩ rfl) ?_
      have y4 := tRb hE (j := pt) (by omega) (by omega)
      refine gm_sz (gm_p_load (pc := 33) (i := .iload_n 2) (sr := 0) (j := 2) (by decide +kernel) rfl rfl rfl) ?_
      refine fw_ic (cc := .gt) (pc := 34) (off := 7) (by decide +kernel) (by decide) ⟨by omega, by omega⟩ ⟨by omega, by omega⟩ (fun j5 => ?_) (fun j5 => ?_)
      · have j5 : hi < (M 231 pt) := j5
        refine gm_sz (gm_p_const (pc := 41) (i := .iconst 0) (v := gm_vi 0) (by decide +kernel) (by decide +kernel)) ?_
        exact gm_r_int (pc := 42) (by decide +kernel) (Or.inr ⟨(by decide +kernel), Or.inl rfl⟩) (h0 (by omega))
      · have j5 : ¬ hi < (M 231 pt) := j5
        refine gm_sz (gm_p_const (pc := 37) (i := .iconst 1) (v := gm_vi 1) (by decide +kernel) (by decide +kernel)) ?_
        refine gm_sz (gm_p_goto (pc := 38) (off := 4) (by decide +kernel) (by decide)) ?_
        exact gm_r_int (pc := 42) (by decide +kernel) (Or.inr ⟨(by decide +kernel), Or.inr rfl⟩) (h1 (by omega) (by omega) (by omega))
theorem tx_gi {f : Int → Int} {e p : Int} (h : p ≤ e) : tx_g f e (tx_g f e p) = tx_g f e p := tx_gg (tx_gb (f := f) h).2.2
theorem tr_n0 (hd : 1 ≤ d) (hE : tR n K R M e) : ∀ pt, 0 ≤ pt → pt ≤ e → gm_Wp X LX d bc bs 245 24 [some (gm_vr 226)] [] n K R (rm M (tx_g (M 231) e pt) bg dp st W) Q → gm_Wp X LX d bc bs 245 0 [some (gm_vr 226)] [] n K R (rm M pt bg dp st W) Q := by
  obtain ⟨-, he0, he4⟩ := tRe hE
  refine fw_ind (fun pt hp0 hpe ih kq => ?_)
  have hp : 0 ≤ pt ∧ pt ≤ e := ⟨hp0, hpe⟩
  refine gm_sz (gm_p_load (pc := 0) (i := .aload_n 0) (sr := 2) (j := 0) (by decide +kernel) rfl rfl rfl) ?_
  refine gm_sz (gm_p_const (pc := 1) (i := .bipush 32) (v := gm_vi 32) (by decide +kernel) (by decide +kernel)) ?_
  refine gm_sz (gm_p_const (pc := 3) (i := .bipush 32) (v := gm_vi 32) (by decide +kernel) (by decide +kernel)) ?_
  refine gm_c_virt (k := 226) (ci := 11) (mj := 246) (ix := 112) (pc := 5) (as := [gm_vi 32, gm_vi 32]) (st := []) (d' := d - 1) (bc' := 0) (bs' := 0) (by decide +kernel) (by decide +kernel) (by decide +kernel) (by decide +kernel) (tR226 hE).1 (tR226 hE).2 (by decide) (by decide +kernel) (show 2 = gm_na 246 by decide +kernel) (fw_c2 fw_si fw_si) (show 3 ≤ gm_ml 246 by decide +kernel) (Nat.le_of_ble_eq_true rfl) (by omega) (Nat.zero_le _) (Nat.zero_le _) ?_
  refine tr_c246 hE ⟨by decide, by decide⟩ ⟨by decide, by decide⟩ hp (fun j1 j2 j3 => ?_) (fun j1 => ?_)
  · show gm_Wp X LX d _ _ 245 8 _ [gm_vi 1] n K R _ Q
    have j1 : pt < e := j1
    have j2 : 32 ≤ M 231 pt := j2
    have j3 : M 231 pt ≤ 32 := j3
    refine fw_iffd (cc := .eq) (pc := 8) (off := 16) (by decide +kernel) (by decide) ⟨by decide, by decide⟩ (by decide) ?_
    refine gm_sz (gm_p_load (pc := 11) (i := .aload_n 0) (sr := 2) (j := 0) (by decide +kernel) rfl rfl rfl) ?_
    refine gm_sz (gm_p_dup (pc := 12) (by decide +kernel) fw_sr) ?_
    refine gm_sz (fw_gi (pc := 13) (ix := 106) (ci := 11) (j := 9) (x := pt) (by decide +kernel) (tR226 hE) (by decide +kernel) (by decide +kernel) rfl) ?_
    refine gm_sz (gm_p_const (pc := 16) (i := .iconst 1) (v := gm_vi 1) (by decide +kernel) (by decide +kernel)) ?_
    refine gm_sz (gm_p_bin (pc := 17) (i := .iadd) (f := fun x y => x + y) (by decide +kernel) rfl) ?_
    refine gm_sz (fw_pi (pc := 18) (ix := 106) (ci := 11) (j := 9) (M' := rm M (pt + 1) bg dp st W) (by decide +kernel) (tR226 hE) (by decide +kernel) (by decide +kernel) (by decide +kernel) rm_pt) ?_
    refine gm_sz (gm_p_goto (pc := 21) (off := (-21)) (by decide +kernel) (by decide)) ?_
    rw [tx_gt (by omega) (by omega)] at kq
    exact ih (by omega) kq
  · show gm_Wp X LX d _ _ 245 8 _ [gm_vi 0] n K R _ Q
    have j1 : ¬ (pt < e ∧ 32 ≤ M 231 pt ∧ M 231 pt ≤ 32) := j1
    refine fw_iftd (cc := .eq) (pc := 8) (off := 16) (by decide +kernel) (by decide) ⟨by decide, by decide⟩ (by decide) ?_
    rw [tx_gg (fun h => by omega)] at kq
    exact kq
theorem tr_c245 (hd : 1 ≤ d) (hE : tR n K R M e) (hp : 0 ≤ pt ∧ pt ≤ e) (hg : tx_g (M 231) e pt = b) (hq : Q (.inl none) n K R (rm M b b dp st W)) : gm_Wp X LX d bc bs 245 0 (gm_ent 245 [gm_vr 226]) [] n K R (rm M pt bg dp st W) Q := by
  subst hg
  refine tr_n0 hd hE pt hp.1 hp.2 ?_
  refine gm_sz (gm_p_load (pc := 24) (i := .aload_n 0) (sr := 2) (j := 0) (by decide +kernel) rfl rfl rfl) ?_
  refine gm_sz (gm_p_load (pc := 25) (i := .aload_n 0) (sr := 2) (j := 0) (by decide +kernel) rfl rfl rfl) ?_
  refine gm_sz (fw_gi (pc := 26) (ix := 106) (ci := 11) (j := 9) (x := tx_g (M 231) e pt) (by decide +kernel) (tR226 hE) (by decide +kernel) (by decide +kernel) rfl) ?_
  refine gm_sz (fw_pi (pc := 29) (ix := 116) (ci := 11) (j := 11) (M' := rm M (tx_g (M 231) e pt) (tx_g (M 231) e pt) dp st W) (by decide +kernel) (tR226 hE) (by decide +kernel) (by decide +kernel) (by decide +kernel) rm_bg) ?_
  exact gm_r_void (pc := 32) (by decide +kernel) (by decide +kernel) hq
theorem tr_n1 (hd : 1 ≤ d) (hE : tR n K R M e) : ∀ pt, 0 ≤ pt → pt ≤ e → gm_Wp X LX d bc bs 248 28 [some (gm_vr 226)] [] n K R (rm M (tx_r (tx_l (M 231)) e pt) bg dp st W) Q → gm_Wp X LX d bc bs 248 4 [some (gm_vr 226)] [] n K R (rm M pt bg dp st W) Q := by
  obtain ⟨-, he0, he4⟩ := tRe hE
  refine fw_ind (fun pt hp0 hpe ih kq => ?_)
  have hp : 0 ≤ pt ∧ pt ≤ e := ⟨hp0, hpe⟩
  refine gm_sz (gm_p_load (pc := 4) (i := .aload_n 0) (sr := 2) (j := 0) (by decide +kernel) rfl rfl rfl) ?_
  refine gm_sz (gm_p_const (pc := 5) (i := .bipush 97) (v := gm_vi 97) (by decide +kernel) (by decide +kernel)) ?_
  refine gm_sz (gm_p_const (pc := 7) (i := .bipush 122) (v := gm_vi 122) (by decide +kernel) (by decide +kernel)) ?_
  refine gm_c_virt (k := 226) (ci := 11) (mj := 246) (ix := 112) (pc := 9) (as := [gm_vi 97, gm_vi 122]) (st := []) (d' := d - 1) (bc' := 0) (bs' := 0) (by decide +kernel) (by decide +kernel) (by decide +kernel) (by decide +kernel) (tR226 hE).1 (tR226 hE).2 (by decide) (by decide +kernel) (show 2 = gm_na 246 by decide +kernel) (fw_c2 fw_si fw_si) (show 3 ≤ gm_ml 246 by decide +kernel) (Nat.le_of_ble_eq_true rfl) (by omega) (Nat.zero_le _) (Nat.zero_le _) ?_
  refine tr_c246 hE ⟨by decide, by decide⟩ ⟨by decide, by decide⟩ hp (fun j1 j2 j3 => ?_) (fun j1 => ?_)
  · show gm_Wp X LX d _ _ 248 12 _ [gm_vi 1] n K R _ Q
    have j1 : pt < e := j1
    have j2 : 97 ≤ M 231 pt := j2
    have j3 : M 231 pt ≤ 122 := j3
    refine fw_iffd (cc := .eq) (pc := 12) (off := 16) (by decide +kernel) (by decide) ⟨by decide, by decide⟩ (by decide) ?_
    refine gm_sz (gm_p_load (pc := 15) (i := .aload_n 0) (sr := 2) (j := 0) (by decide +kernel) rfl rfl rfl) ?_
    refine gm_sz (gm_p_dup (pc := 16) (by decide +kernel) fw_sr) ?_
    refine gm_sz (fw_gi (pc := 17) (ix := 106) (ci := 11) (j := 9) (x := pt) (by decide +kernel) (tR226 hE) (by decide +kernel) (by decide +kernel) rfl) ?_
    refine gm_sz (gm_p_const (pc := 20) (i := .iconst 1) (v := gm_vi 1) (by decide +kernel) (by decide +kernel)) ?_
    refine gm_sz (gm_p_bin (pc := 21) (i := .iadd) (f := fun x y => x + y) (by decide +kernel) rfl) ?_
    refine gm_sz (fw_pi (pc := 22) (ix := 106) (ci := 11) (j := 9) (M' := rm M (pt + 1) bg dp st W) (by decide +kernel) (tR226 hE) (by decide +kernel) (by decide +kernel) (by decide +kernel) rm_pt) ?_
    refine gm_sz (gm_p_goto (pc := 25) (off := (-21)) (by decide +kernel) (by decide)) ?_
    rw [tx_rt (by omega) (decide_eq_true (by omega))] at kq
    exact ih (by omega) kq
  · show gm_Wp X LX d _ _ 248 12 _ [gm_vi 0] n K R _ Q
    have j1 : ¬ (pt < e ∧ 97 ≤ M 231 pt ∧ M 231 pt ≤ 122) := j1
    refine fw_iftd (cc := .eq) (pc := 12) (off := 16) (by decide +kernel) (by decide) ⟨by decide, by decide⟩ (by decide) ?_
    rw [tx_rf (fun h h2 => by have := of_decide_eq_true h2; omega)] at kq
    exact kq
theorem tr_c248 (hd : 2 ≤ d) (hE : tR n K R M e) (hp : 0 ≤ pt ∧ pt ≤ e) (hg : tx_g (M 231) e pt = b) (hq : Q (.inl none) n K R (rm M (tx_r (tx_l (M 231)) e b) b dp st W)) : gm_Wp X LX d bc bs 248 0 (gm_ent 248 [gm_vr 226]) [] n K R (rm M pt bg dp st W) Q := by
  subst hg
  obtain ⟨-, he0, he4⟩ := tRe hE
  refine gm_sz (gm_p_load (pc := 0) (i := .aload_n 0) (sr := 2) (j := 0) (by decide +kernel) rfl rfl rfl) ?_
  refine gm_c_virt (k := 226) (ci := 11) (mj := 245) (ix := 119) (pc := 1) (as := []) (st := []) (d' := d - 1) (bc' := 0) (bs' := 0) (by decide +kernel) (by decide +kernel) (by decide +kernel) (by decide +kernel) (tR226 hE).1 (tR226 hE).2 (by decide) (by decide +kernel) (show 0 = gm_na 245 by decide +kernel) fw_c0 (show 1 ≤ gm_ml 245 by decide +kernel) (Nat.le_of_ble_eq_true rfl) (by omega) (Nat.zero_le _) (Nat.zero_le _) ?_
  refine tr_c245 (by omega) hE hp rfl ?_
  show gm_Wp X LX d _ _ 248 4 _ [] n K R _ Q
  have g1 : 0 ≤ tx_g (M 231) e pt ∧ tx_g (M 231) e pt ≤ e := by have := tx_gb (f := M 231) hp.2; have := hp.1; omega
  have q2 : tx_g (M 231) e (tx_g (M 231) e pt) = tx_g (M 231) e pt := by rw [← (rfl : tx_g (M 231) e pt = tx_g (M 231) e pt)]; exact tx_gi hp.2
  exact tr_n1 (by omega) hE _ g1.1 g1.2 (gm_r_void (pc := 28) (by decide +kernel) (by decide +kernel) hq)
theorem tr_w8 (hd : 5 ≤ d) (hE : tR n K R M e) (hc : c < 75) (hl : tx_o c = l) (hb : 0 ≤ bg ∧ pt ≤ e) (hs : pt - bg = (l.length : Int)) (h1 : (pt - bg = (l.length : Int) ∧ ∀ i : Nat, i < l.length → M 231 (bg + i) = l.getD i 0) → Q (.inl (some (gm_vi 1))) n K R (rm M pt bg dp st W)) (h0 : ¬ (pt - bg = (l.length : Int) ∧ ∀ i : Nat, i < l.length → M 231 (bg + i) = l.getD i 0) → Q (.inl (some (gm_vi 0))) n K R (rm M pt bg dp st W)) : ∀ i, 0 ≤ i → i ≤ (l.length : Int) → (∀ j : Nat, (j : Int) < i → M 231 (bg + j) = l.getD j 0) → gm_Wp X LX d bc bs 250 24 [some (gm_vr 226), some (gm_vo c), some (gm_vi 1), some (gm_vi i)] [] n K R (rm M pt bg dp st W) Q := by
  obtain ⟨-, he0, he4⟩ := tRe hE
  have hsl := (tx_ol hl).1
  have hid : c < gm_sl.length := by rw [gm_sl75]; exact hc
  have hs9 := (gm_chk_s hid).1.2
  refine fw_ind (fun i hi0 hil ih hall => ?_)
  refine gm_sz (gm_p_load (pc := 24) (i := .iload_n 2) (sr := 0) (j := 2) (by decide +kernel) rfl rfl rfl) ?_
  refine fw_iffd (cc := .eq) (pc := 25) (off := 42) (by decide +kernel) (by decide) ⟨by decide, by decide⟩ (by decide) ?_
  refine gm_sz (gm_p_load (pc := 28) (i := .iload_n 3) (sr := 0) (j := 3) (by decide +kernel) rfl rfl rfl) ?_
  refine gm_sz (gm_p_load (pc := 29) (i := .aload_n 1) (sr := 2) (j := 1) (by decide +kernel) rfl rfl rfl) ?_
  refine gm_c_vstr (id := c) (mj := 82) (ix := 122) (pc := 30) (as := []) (st := [gm_vi i]) (d' := d - 1) (bc' := 0) (bs' := 0) (by decide +kernel) (by decide +kernel) (by decide +kernel) (by decide +kernel) hid (by decide +kernel) (show 0 = gm_na 82 by decide +kernel) fw_c0 (show 1 ≤ gm_ml 82 by decide +kernel) (Nat.le_of_ble_eq_true rfl) (by omega) (Nat.zero_le _) (Nat.zero_le _) ?_
  refine gm_w82 (by omega) hid ?_
  show gm_Wp X LX d _ _ 250 33 _ [gm_vi (gm_slen c : Int), gm_vi i] n K R _ Q
  refine fw_ic (cc := .ge) (pc := 33) (off := 34) (by decide +kernel) (by decide) ⟨by omega, by omega⟩ ⟨by omega, by omega⟩ (fun j1 => ?_) (fun j1 => ?_)
  · have j1 : (gm_slen c : Int) ≤ i := j1
    refine gm_sz (gm_p_load (pc := 67) (i := .iload_n 2) (sr := 0) (j := 2) (by decide +kernel) rfl rfl rfl) ?_
    exact gm_r_int (pc := 68) (by decide +kernel) (Or.inr ⟨(by decide +kernel), Or.inr rfl⟩) (h1 ⟨hs, fun j hj => hall j (by omega)⟩)
  · have j1 : ¬ (gm_slen c : Int) ≤ i := j1
    refine gm_sz (gm_p_load (pc := 36) (i := .aload_n 0) (sr := 2) (j := 0) (by decide +kernel) rfl rfl rfl) ?_
    refine gm_sz (fw_gr (pc := 37) (ix := 26) (ci := 11) (j := 7) (r := 231) (by decide +kernel) (tR226 hE) (by decide +kernel) (by decide +kernel) (tRr hE).2) ?_
    refine gm_sz (gm_p_load (pc := 40) (i := .aload_n 0) (sr := 2) (j := 0) (by decide +kernel) rfl rfl rfl) ?_
    refine gm_sz (fw_gi (pc := 41) (ix := 116) (ci := 11) (j := 11) (x := bg) (by decide +kernel) (tR226 hE) (by decide +kernel) (by decide +kernel) rfl) ?_
    refine gm_sz (gm_p_load (pc := 44) (i := .iload_n 3) (sr := 0) (j := 3) (by decide +kernel) rfl rfl rfl) ?_
    refine gm_sz (gm_p_bin (pc := 45) (i := .iadd) (f := fun x y => x + y) (by decide +kernel) rfl) ?_
    refine gm_sz (fw_ba (pc := 46) (k := 231) (len := 400) (e0 := bg + i) (x := M 231 (bg + i)) (by decide +kernel) (tR231 hE).1 (tR231 hE).2 (by decide) ⟨by omega, by omega⟩ rfl) ?_
    have y2 := tRb hE (j := bg + i) (by omega) (by omega)
    refine gm_sz (gm_p_load (pc := 47) (i := .aload_n 1) (sr := 2) (j := 1) (by decide +kernel) rfl rfl rfl) ?_
    refine gm_sz (gm_p_load (pc := 48) (i := .iload_n 3) (sr := 0) (j := 3) (by decide +kernel) rfl rfl rfl) ?_
    refine gm_c_vstr (id := c) (mj := 84) (ix := 127) (pc := 49) (as := [gm_vi i]) (st := [gm_vi (M 231 (bg + i))]) (d' := d - 1) (bc' := 0) (bs' := 0) (by decide +kernel) (by decide +kernel) (by decide +kernel) (by decide +kernel) hid (by decide +kernel) (show 1 = gm_na 84 by decide +kernel) (fw_c1 fw_si) (show 2 ≤ gm_ml 84 by decide +kernel) (Nat.le_of_ble_eq_true rfl) (by omega) (Nat.zero_le _) (Nat.zero_le _) ?_
    refine gm_w84 (by omega) hid ⟨by omega, by omega⟩ ?_
    show gm_Wp X LX d _ _ 250 52 _ [gm_vi (gm_chv c i.toNat), gm_vi (M 231 (bg + i))] n K R _ Q
    have z3 := ((gm_chk_s hid).2 i.toNat (by omega)).2
    refine fw_ic (cc := .ne) (pc := 52) (off := 7) (by decide +kernel) (by decide) ⟨by omega, by omega⟩ ⟨by omega, by omega⟩ (fun j4 => ?_) (fun j4 => ?_)
    · have j4 : ¬ (M 231 (bg + i)) = (gm_chv c i.toNat) := j4
      refine gm_sz (gm_p_const (pc := 59) (i := .iconst 0) (v := gm_vi 0) (by decide +kernel) (by decide +kernel)) ?_
      refine gm_sz (gm_p_stor (pc := 60) (i := .istore_n 2) (sr := 0) (j := 2) (by decide +kernel) rfl (show 3 ≤ _ from Nat.le_of_ble_eq_true rfl) rfl) ?_
      refine gm_sz (gm_p_iinc (pc := 61) (j := 3) (z := 1) (by decide +kernel) rfl) ?_
      refine gm_sz (gm_p_goto (pc := 64) (off := (-40)) (by decide +kernel) (by decide)) ?_
      refine gm_sz (gm_p_load (pc := 24) (i := .iload_n 2) (sr := 0) (j := 2) (by decide +kernel) rfl rfl rfl) ?_
      refine fw_iftd (cc := .eq) (pc := 25) (off := 42) (by decide +kernel) (by decide) ⟨by decide, by decide⟩ (by decide) ?_
      refine gm_sz (gm_p_load (pc := 67) (i := .iload_n 2) (sr := 0) (j := 2) (by decide +kernel) rfl rfl rfl) ?_
      refine gm_r_int (pc := 68) (by decide +kernel) (Or.inr ⟨(by decide +kernel), Or.inl rfl⟩) (h0 fun hh => ?_)
      have e1 := hh.2 i.toNat (by omega)
      rw [show ((i.toNat : Nat) : Int) = i by omega, ← (tx_ol hl).2 i.toNat (by omega)] at e1
      exact j4 e1
    · have j4 : (M 231 (bg + i)) = (gm_chv c i.toNat) := Classical.not_not.mp j4
      refine gm_sz (gm_p_const (pc := 55) (i := .iconst 1) (v := gm_vi 1) (by decide +kernel) (by decide +kernel)) ?_
      refine gm_sz (gm_p_goto (pc := 56) (off := 4) (by decide +kernel) (by decide)) ?_
      refine gm_sz (gm_p_stor (pc := 60) (i := .istore_n 2) (sr := 0) (j := 2) (by decide +kernel) rfl (show 3 ≤ _ from Nat.le_of_ble_eq_true rfl) rfl) ?_
      refine gm_sz (gm_p_iinc (pc := 61) (j := 3) (z := 1) (by decide +kernel) rfl) ?_
      refine gm_sz (gm_p_goto (pc := 64) (off := (-40)) (by decide +kernel) (by decide)) ?_
      refine ih (by omega) (fun j hj => ?_)
      by_cases hji : (j : Int) = i
      · rw [hji, j4, (tx_ol hl).2 i.toNat (by omega), show i.toNat = j by omega]
      · exact hall j (by omega)
theorem tr_c250 (hd : 5 ≤ d) (hE : tR n K R M e) (hc : c < 75) (hl : tx_o c = l) (hb : 0 ≤ bg ∧ bg ≤ pt ∧ pt ≤ e) (h1 : (pt - bg = (l.length : Int) ∧ ∀ i : Nat, i < l.length → M 231 (bg + i) = l.getD i 0) → Q (.inl (some (gm_vi 1))) n K R (rm M pt bg dp st W)) (h0 : ¬ (pt - bg = (l.length : Int) ∧ ∀ i : Nat, i < l.length → M 231 (bg + i) = l.getD i 0) → Q (.inl (some (gm_vi 0))) n K R (rm M pt bg dp st W)) : gm_Wp X LX d bc bs 250 0 (gm_ent 250 [gm_vr 226, gm_vo c]) [] n K R (rm M pt bg dp st W) Q := by
  obtain ⟨-, he0, he4⟩ := tRe hE
  have hsl := (tx_ol hl).1
  have hid : c < gm_sl.length := by rw [gm_sl75]; exact hc
  have hs9 := (gm_chk_s hid).1.2
  refine gm_sz (gm_p_load (pc := 0) (i := .aload_n 0) (sr := 2) (j := 0) (by decide +kernel) rfl rfl rfl) ?_
  refine gm_sz (fw_gi (pc := 1) (ix := 106) (ci := 11) (j := 9) (x := pt) (by decide +kernel) (tR226 hE) (by decide +kernel) (by decide +kernel) rfl) ?_
  refine gm_sz (gm_p_load (pc := 4) (i := .aload_n 0) (sr := 2) (j := 0) (by decide +kernel) rfl rfl rfl) ?_
  refine gm_sz (fw_gi (pc := 5) (ix := 116) (ci := 11) (j := 11) (x := bg) (by decide +kernel) (tR226 hE) (by decide +kernel) (by decide +kernel) rfl) ?_
  refine gm_sz (gm_p_bin (pc := 8) (i := .isub) (f := fun x y => x - y) (by decide +kernel) rfl) ?_
  refine gm_sz (gm_p_load (pc := 9) (i := .aload_n 1) (sr := 2) (j := 1) (by decide +kernel) rfl rfl rfl) ?_
  refine gm_c_vstr (id := c) (mj := 82) (ix := 122) (pc := 10) (as := []) (st := [gm_vi (pt - bg)]) (d' := d - 1) (bc' := 0) (bs' := 0) (by decide +kernel) (by decide +kernel) (by decide +kernel) (by decide +kernel) hid (by decide +kernel) (show 0 = gm_na 82 by decide +kernel) fw_c0 (show 1 ≤ gm_ml 82 by decide +kernel) (Nat.le_of_ble_eq_true rfl) (by omega) (Nat.zero_le _) (Nat.zero_le _) ?_
  refine gm_w82 (by omega) hid ?_
  show gm_Wp X LX d _ _ 250 13 _ [gm_vi (gm_slen c : Int), gm_vi (pt - bg)] n K R _ Q
  refine fw_ic (cc := .ne) (pc := 13) (off := 7) (by decide +kernel) (by decide) ⟨by omega, by omega⟩ ⟨by omega, by omega⟩ (fun j1 => ?_) (fun j1 => ?_)
  · have j1 : ¬ (pt - bg) = (gm_slen c : Int) := j1
    refine gm_sz (gm_p_const (pc := 20) (i := .iconst 0) (v := gm_vi 0) (by decide +kernel) (by decide +kernel)) ?_
    refine gm_sz (gm_p_stor (pc := 21) (i := .istore_n 2) (sr := 0) (j := 2) (by decide +kernel) rfl (show 3 ≤ _ from Nat.le_of_ble_eq_true rfl) rfl) ?_
    refine gm_sz (gm_p_const (pc := 22) (i := .iconst 0) (v := gm_vi 0) (by decide +kernel) (by decide +kernel)) ?_
    refine gm_sz (gm_p_stor (pc := 23) (i := .istore_n 3) (sr := 0) (j := 3) (by decide +kernel) rfl (show 4 ≤ _ from Nat.le_of_ble_eq_true rfl) rfl) ?_
    refine gm_sz (gm_p_load (pc := 24) (i := .iload_n 2) (sr := 0) (j := 2) (by decide +kernel) rfl rfl rfl) ?_
    refine fw_iftd (cc := .eq) (pc := 25) (off := 42) (by decide +kernel) (by decide) ⟨by decide, by decide⟩ (by decide) ?_
    refine gm_sz (gm_p_load (pc := 67) (i := .iload_n 2) (sr := 0) (j := 2) (by decide +kernel) rfl rfl rfl) ?_
    exact gm_r_int (pc := 68) (by decide +kernel) (Or.inr ⟨(by decide +kernel), Or.inl rfl⟩) (h0 fun hh => j1 (by have := hh.1; omega))
  · have j1 : (pt - bg) = (gm_slen c : Int) := Classical.not_not.mp j1
    refine gm_sz (gm_p_const (pc := 16) (i := .iconst 1) (v := gm_vi 1) (by decide +kernel) (by decide +kernel)) ?_
    refine gm_sz (gm_p_goto (pc := 17) (off := 4) (by decide +kernel) (by decide)) ?_
    refine gm_sz (gm_p_stor (pc := 21) (i := .istore_n 2) (sr := 0) (j := 2) (by decide +kernel) rfl (show 3 ≤ _ from Nat.le_of_ble_eq_true rfl) rfl) ?_
    refine gm_sz (gm_p_const (pc := 22) (i := .iconst 0) (v := gm_vi 0) (by decide +kernel) (by decide +kernel)) ?_
    refine gm_sz (gm_p_stor (pc := 23) (i := .istore_n 3) (sr := 0) (j := 3) (by decide +kernel) rfl (show 4 ≤ _ from Nat.le_of_ble_eq_true rfl) rfl) ?_
    exact tr_w8 hd hE hc hl ⟨hb.1, hb.2.2⟩ (by omega) h1 h0 0 (Int.le_refl _) (by omega) (fun j hj => absurd hj (by omega))
/-- the letters from b on are a word -/
theorem tr_is (hb : 0 ≤ b ∧ b ≤ e) (hn : 0 < l.length) : (tx_r (tx_l (M 231)) e b - b = (l.length : Int) ∧ ∀ i : Nat, i < l.length → M 231 (b + i) = l.getD i 0) ↔ tx_is (M 231) e b l := by
  by_cases h0 : b < e ∧ (97 ≤ M 231 b ∧ M 231 b ≤ 122)
  · obtain ⟨t1, t2, -⟩ := tx_k1 (f := M 231) (m := 0) h0.1 h0.2
    unfold tx_is
    rw [t1, t2]
    exact ⟨fun h => ⟨rfl, h.1, h.2⟩, fun h => ⟨h.2.1, h.2.2⟩⟩
  · have e1 : tx_r (tx_l (M 231)) e b = b := tx_rf (fun h h2 => h0 ⟨h, of_decide_eq_true h2⟩)
    rw [e1]
    refine ⟨fun h => absurd h.1 (by omega), fun h => ?_⟩
    exfalso
    have h1 := h.1
    have h2 := tx_kne (f := M 231) (e := e) (b := b) (by omega)
    by_cases h4 : 48 ≤ M 231 b ∧ M 231 b ≤ 57
    · have := (tx_k2 (m := 0) h2 h4).1
      omega
    · have := (tx_k3 (f := M 231) (m := 0) h2 (fun h => h0 ⟨h2, h⟩) h4).1
      omega
theorem tx_s1 {f : Int → Int} (h : tx_is f e b l) : tx_s f e b = tx_r (tx_l f) e b := by
  have h1 := h.1
  have h2 := tx_kne (f := f) (e := e) (b := b) (by omega)
  by_cases h3 : 97 ≤ f b ∧ f b ≤ 122
  · exact (tx_k1 (m := 0) h2 h3).2.1
  exfalso
  by_cases h4 : 48 ≤ f b ∧ f b ≤ 57
  · have := (tx_k2 (m := 0) h2 h4).1
    omega
  · have := tx_k3 (f := f) (m := 0) h2 h3 h4
    have h5 := h.2.1
    rw [this.2.1] at h5
    have h6 := this.1
    omega
theorem tr_c269 (hd : 6 ≤ d) (hE : tR n K R M e) (hc : c < 75) (hl : tx_o c = l) (hn : 0 < l.length) (hp : 0 ≤ pt ∧ pt ≤ e) (hg : tx_g (M 231) e pt = b) (h1 : tx_is (M 231) e b l → Q (.inl (some (gm_vi 1))) n K R (rm M (tx_s (M 231) e b) b dp st W)) (h0 : ¬ tx_is (M 231) e b l → Q (.inl (some (gm_vi 0))) n K R (rm M b b dp st W)) : gm_Wp X LX d bc bs 269 0 (gm_ent 269 [gm_vr 226, gm_vo c]) [] n K R (rm M pt bg dp st W) Q := by
  subst hg
  obtain ⟨-, he0, he4⟩ := tRe hE
  refine gm_sz (gm_p_load (pc := 0) (i := .aload_n 0) (sr := 2) (j := 0) (by decide +kernel) rfl rfl rfl) ?_
  refine gm_c_virt (k := 226) (ci := 11) (mj := 248) (ix := 131) (pc := 1) (as := []) (st := []) (d' := d - 1) (bc' := 0) (bs' := 0) (by decide +kernel) (by decide +kernel) (by decide +kernel) (by decide +kernel) (tR226 hE).1 (tR226 hE).2 (by decide) (by decide +kernel) (show 0 = gm_na 248 by decide +kernel) fw_c0 (show 1 ≤ gm_ml 248 by decide +kernel) (Nat.le_of_ble_eq_true rfl) (by omega) (Nat.zero_le _) (Nat.zero_le _) ?_
  refine tr_c248 (by omega) hE hp rfl ?_
  show gm_Wp X LX d _ _ 269 4 _ [] n K R _ Q
  have g1 : 0 ≤ tx_g (M 231) e pt ∧ tx_g (M 231) e pt ≤ e := by have := tx_gb (f := M 231) hp.2; have := hp.1; omega
  have q3 : tx_g (M 231) e (tx_g (M 231) e pt) = tx_g (M 231) e pt := by rw [← (rfl : tx_g (M 231) e pt = tx_g (M 231) e pt)]; exact tx_gi hp.2
  have g2 : 0 ≤ tx_r (tx_l (M 231)) e (tx_g (M 231) e pt) ∧ tx_r (tx_l (M 231)) e (tx_g (M 231) e pt) ≤ e := by have := tx_rb (q := tx_l (M 231)) (e := e) _ (tx_g (M 231) e pt) rfl g1.2; omega
  refine gm_sz (gm_p_load (pc := 4) (i := .aload_n 0) (sr := 2) (j := 0) (by decide +kernel) rfl rfl rfl) ?_
  refine gm_sz (gm_p_load (pc := 5) (i := .aload_n 1) (sr := 2) (j := 1) (by decide +kernel) rfl rfl rfl) ?_
  refine gm_c_virt (k := 226) (ci := 11) (mj := 250) (ix := 134) (pc := 6) (as := [gm_vo c]) (st := []) (d' := d - 1) (bc' := 0) (bs' := 0) (by decide +kernel) (by decide +kernel) (by decide +kernel) (by decide +kernel) (tR226 hE).1 (tR226 hE).2 (by decide) (by decide +kernel) (show 1 = gm_na 250 by decide +kernel) (fw_c1 fw_so) (show 2 ≤ gm_ml 250 by decide +kernel) (Nat.le_of_ble_eq_true rfl) (by omega) (Nat.zero_le _) (Nat.zero_le _) ?_
  refine tr_c250 (by omega) hE hc hl ⟨g1.1, (tx_rb (q := tx_l (M 231)) (e := e) _ (tx_g (M 231) e pt) rfl g1.2).1, (tx_rb (q := tx_l (M 231)) (e := e) _ (tx_g (M 231) e pt) rfl g1.2).2.1⟩ (fun j4 => ?_) (fun j4 => ?_)
  · show gm_Wp X LX d _ _ 269 9 _ [gm_vi 1] n K R _ Q
    have j4 : tx_is (M 231) e (tx_g (M 231) e pt) l := (tr_is g1 hn).mp j4
    have q5 : tx_g (M 231) e (tx_r (tx_l (M 231)) e (tx_g (M 231) e pt)) = tx_n (M 231) e (tx_g (M 231) e pt) := by rw [← tx_s1 j4]; rfl
    have g7 : 0 ≤ tx_n (M 231) e (tx_g (M 231) e pt) ∧ tx_n (M 231) e (tx_g (M 231) e pt) ≤ e := by have := tx_nb (f := M 231) (b := tx_g (M 231) e pt) g1.2; have := g1.1; omega
    have g6 : tx_g (M 231) e pt + 1 ≤ tx_r (tx_l (M 231)) e (tx_g (M 231) e pt) := by have := (tx_sb (f := M 231) g1.2).2.2 (g_isb j4); rwa [tx_s1 j4] at this
    refine fw_iffd (cc := .eq) (pc := 9) (off := 5) (by decide +kernel) (by decide) ⟨by decide, by decide⟩ (by decide) ?_
    refine gm_sz (gm_p_const (pc := 12) (i := .iconst 1) (v := gm_vi 1) (by decide +kernel) (by decide +kernel)) ?_
    have h1 := h1 j4
    rw [tx_s1 j4] at h1
    exact gm_r_int (pc := 13) (by decide +kernel) (Or.inr ⟨(by decide +kernel), Or.inr rfl⟩) h1
  · show gm_Wp X LX d _ _ 269 9 _ [gm_vi 0] n K R _ Q
    have j4 : ¬ tx_is (M 231) e (tx_g (M 231) e pt) l := fun hh => j4 ((tr_is g1 hn).mpr hh)
    refine fw_iftd (cc := .eq) (pc := 9) (off := 5) (by decide +kernel) (by decide) ⟨by decide, by decide⟩ (by decide) ?_
    refine gm_sz (gm_p_load (pc := 14) (i := .aload_n 0) (sr := 2) (j := 0) (by decide +kernel) rfl rfl rfl) ?_
    refine gm_sz (gm_p_load (pc := 15) (i := .aload_n 0) (sr := 2) (j := 0) (by decide +kernel) rfl rfl rfl) ?_
    refine gm_sz (fw_gi (pc := 16) (ix := 116) (ci := 11) (j := 11) (x := tx_g (M 231) e pt) (by decide +kernel) (tR226 hE) (by decide +kernel) (by decide +kernel) rfl) ?_
    refine gm_sz (fw_pi (pc := 19) (ix := 106) (ci := 11) (j := 9) (M' := rm M (tx_g (M 231) e pt) (tx_g (M 231) e pt) dp st W) (by decide +kernel) (tR226 hE) (by decide +kernel) (by decide +kernel) (by decide +kernel) rm_pt) ?_
    refine gm_sz (gm_p_const (pc := 22) (i := .iconst 0) (v := gm_vi 0) (by decide +kernel) (by decide +kernel)) ?_
    exact gm_r_int (pc := 23) (by decide +kernel) (Or.inr ⟨(by decide +kernel), Or.inl rfl⟩) (h0 j4)
theorem tr_c278 {x : Int} (hd : 2 ≤ d) (hE : tR n K R M e) (hx : 0 ≤ x ∧ x < 97 ∧ ¬ (48 ≤ x ∧ x ≤ 57)) (hp : 0 ≤ pt ∧ pt ≤ e) (hg : tx_g (M 231) e pt = b) (h1 : tx_k (M 231) e b = x → Q (.inl (some (gm_vi 1))) n K R (rm M (tx_s (M 231) e b) b dp st W)) (h0 : ¬ tx_k (M 231) e b = x → Q (.inl (some (gm_vi 0))) n K R (rm M b b dp st W)) : gm_Wp X LX d bc bs 278 0 (gm_ent 278 [gm_vr 226, gm_vi x]) [] n K R (rm M pt bg dp st W) Q := by
  subst hg
  obtain ⟨-, he0, he4⟩ := tRe hE
  obtain ⟨hx1, hx2, hx3⟩ := hx
  refine gm_sz (gm_p_load (pc := 0) (i := .aload_n 0) (sr := 2) (j := 0) (by decide +kernel) rfl rfl rfl) ?_
  refine gm_c_virt (k := 226) (ci := 11) (mj := 245) (ix := 119) (pc := 1) (as := []) (st := []) (d' := d - 1) (bc' := 0) (bs' := 0) (by decide +kernel) (by decide +kernel) (by decide +kernel) (by decide +kernel) (tR226 hE).1 (tR226 hE).2 (by decide) (by decide +kernel) (show 0 = gm_na 245 by decide +kernel) fw_c0 (show 1 ≤ gm_ml 245 by decide +kernel) (Nat.le_of_ble_eq_true rfl) (by omega) (Nat.zero_le _) (Nat.zero_le _) ?_
  refine tr_c245 (by omega) hE hp rfl ?_
  show gm_Wp X LX d _ _ 278 4 _ [] n K R _ Q
  have g1 : 0 ≤ tx_g (M 231) e pt ∧ tx_g (M 231) e pt ≤ e := by have := tx_gb (f := M 231) hp.2; have := hp.1; omega
  have q2 : tx_g (M 231) e (tx_g (M 231) e pt) = tx_g (M 231) e pt := by rw [← (rfl : tx_g (M 231) e pt = tx_g (M 231) e pt)]; exact tx_gi hp.2
  refine gm_sz (gm_p_load (pc := 4) (i := .aload_n 0) (sr := 2) (j := 0) (by decide +kernel) rfl rfl rfl) ?_
  refine gm_sz (gm_p_load (pc := 5) (i := .iload_n 1) (sr := 0) (j := 1) (by decide +kernel) rfl rfl rfl) ?_
  refine gm_sz (gm_p_load (pc := 6) (i := .iload_n 1) (sr := 0) (j := 1) (by decide +kernel) rfl rfl rfl) ?_
  refine gm_c_virt (k := 226) (ci := 11) (mj := 246) (ix := 112) (pc := 7) (as := [gm_vi x, gm_vi x]) (st := []) (d' := d - 1) (bc' := 0) (bs' := 0) (by decide +kernel) (by decide +kernel) (by decide +kernel) (by decide +kernel) (tR226 hE).1 (tR226 hE).2 (by decide) (by decide +kernel) (show 2 = gm_na 246 by decide +kernel) (fw_c2 fw_si fw_si) (show 3 ≤ gm_ml 246 by decide +kernel) (Nat.le_of_ble_eq_true rfl) (by omega) (Nat.zero_le _) (Nat.zero_le _) ?_
  refine tr_c246 hE ⟨by omega, by omega⟩ ⟨by omega, by omega⟩ g1 (fun j3 j4 j5 => ?_) (fun j3 => ?_)
  · show gm_Wp X LX d _ _ 278 10 _ [gm_vi 1] n K R _ Q
    have j3 : tx_g (M 231) e pt < e := j3
    have j4 : x ≤ M 231 (tx_g (M 231) e pt) := j4
    have j5 : M 231 (tx_g (M 231) e pt) ≤ x := j5
    refine fw_iftd (cc := .ne) (pc := 10) (off := 5) (by decide +kernel) (by decide) ⟨by decide, by decide⟩ (by decide) ?_
    refine gm_sz (gm_p_load (pc := 15) (i := .aload_n 0) (sr := 2) (j := 0) (by decide +kernel) rfl rfl rfl) ?_
    refine gm_sz (gm_p_dup (pc := 16) (by decide +kernel) fw_sr) ?_
    refine gm_sz (fw_gi (pc := 17) (ix := 106) (ci := 11) (j := 9) (x := tx_g (M 231) e pt) (by decide +kernel) (tR226 hE) (by decide +kernel) (by decide +kernel) rfl) ?_
    refine gm_sz (gm_p_const (pc := 20) (i := .iconst 1) (v := gm_vi 1) (by decide +kernel) (by decide +kernel)) ?_
    refine gm_sz (gm_p_bin (pc := 21) (i := .iadd) (f := fun x y => x + y) (by decide +kernel) rfl) ?_
    refine gm_sz (fw_pi (pc := 22) (ix := 106) (ci := 11) (j := 9) (M' := rm M ((tx_g (M 231) e pt) + 1) (tx_g (M 231) e pt) dp st W) (by decide +kernel) (tR226 hE) (by decide +kernel) (by decide +kernel) (by decide +kernel) rm_pt) ?_
    refine gm_sz (gm_p_const (pc := 25) (i := .iconst 1) (v := gm_vi 1) (by decide +kernel) (by decide +kernel)) ?_
    have t1 := (tx_ksg (f := M 231) (e := e) (b := tx_g (M 231) e pt) (c := x) (fun h => tRb hE (by omega) (by omega)) ⟨by omega, by omega, by omega⟩).mpr ⟨by omega, by omega⟩
    have h1 := h1 t1
    rw [(tx_k3 (f := M 231) (m := 0) (b := tx_g (M 231) e pt) (e := e) (by omega) (by omega) (by omega)).2.1] at h1
    exact gm_r_int (pc := 26) (by decide +kernel) (Or.inr ⟨(by decide +kernel), Or.inr rfl⟩) h1
  · show gm_Wp X LX d _ _ 278 10 _ [gm_vi 0] n K R _ Q
    have j3 : ¬ (tx_g (M 231) e pt < e ∧ x ≤ M 231 (tx_g (M 231) e pt) ∧ M 231 (tx_g (M 231) e pt) ≤ x) := j3
    refine fw_iffd (cc := .ne) (pc := 10) (off := 5) (by decide +kernel) (by decide) ⟨by decide, by decide⟩ (by decide) ?_
    refine gm_sz (gm_p_const (pc := 13) (i := .iconst 0) (v := gm_vi 0) (by decide +kernel) (by decide +kernel)) ?_
    exact gm_r_int (pc := 14) (by decide +kernel) (Or.inr ⟨(by decide +kernel), Or.inl rfl⟩) (h0 fun hh => by have := (tx_ksg (f := M 231) (e := e) (b := tx_g (M 231) e pt) (c := x) (fun h => tRb hE (by omega) (by omega)) ⟨by omega, by omega, by omega⟩).mp hh; omega)
/-- figures, from p on: v is what the first m of them say -/
theorem tr_n2 {m B : Int} (hd : 1 ≤ d) (hE : tR n K R M e) (hm : 1 ≤ m ∧ m ≤ 4) (hlo : gm_ir lo) (hhi : gm_ir hi) (hB : 0 ≤ B) : ∀ pt, 0 ≤ pt → pt ≤ e → ∀ v, B ≤ pt → (0 ≤ v ∧ v < tx_t (if pt - B ≤ m then pt - B else m)) → (∀ v2 p2, B ≤ p2 → p2 ≤ e → p2 = tx_r (tx_d (M 231)) e pt → (0 ≤ v2 ∧ v2 < 10000) → (if p2 - B ≤ m then v2 else -1) = tx_u (M 231) e m B (e - pt).toNat pt (if pt - B ≤ m then v else -1) → gm_Wp X LX d bc bs 256 69 [some (gm_vr 226), some (gm_vi lo), some (gm_vi hi), some (gm_vi m), some (gm_vi v2)] [] n K R (rm M p2 B dp st W) Q) → gm_Wp X LX d bc bs 256 7 [some (gm_vr 226), some (gm_vi lo), some (gm_vi hi), some (gm_vi m), some (gm_vi v)] [] n K R (rm M pt B dp st W) Q := by
  obtain ⟨-, he0, he4⟩ := tRe hE
  refine fw_ind (fun pt hp0 hpe ih v hbp hv kq => ?_)
  have hp : 0 ≤ pt ∧ pt ≤ e := ⟨hp0, hpe⟩
  have htb := tx_tb (k := if pt - B ≤ m then pt - B else m)
  refine gm_sz (gm_p_load (pc := 7) (i := .aload_n 0) (sr := 2) (j := 0) (by decide +kernel) rfl rfl rfl) ?_
  refine gm_sz (gm_p_const (pc := 8) (i := .bipush 48) (v := gm_vi 48) (by decide +kernel) (by decide +kernel)) ?_
  refine gm_sz (gm_p_const (pc := 10) (i := .bipush 57) (v := gm_vi 57) (by decide +kernel) (by decide +kernel)) ?_
  refine gm_c_virt (k := 226) (ci := 11) (mj := 246) (ix := 112) (pc := 12) (as := [gm_vi 48, gm_vi 57]) (st := []) (d' := d - 1) (bc' := 0) (bs' := 0) (by decide +kernel) (by decide +kernel) (by decide +kernel) (by decide +kernel) (tR226 hE).1 (tR226 hE).2 (by decide) (by decide +kernel) (show 2 = gm_na 246 by decide +kernel) (fw_c2 fw_si fw_si) (show 3 ≤ gm_ml 246 by decide +kernel) (Nat.le_of_ble_eq_true rfl) (by omega) (Nat.zero_le _) (Nat.zero_le _) ?_
  refine tr_c246 hE ⟨by decide, by decide⟩ ⟨by decide, by decide⟩ hp (fun j1 j2 j3 => ?_) (fun j1 => ?_)
  · show gm_Wp X LX d _ _ 256 15 _ [gm_vi 1] n K R _ Q
    have j1 : pt < e := j1
    have j2 : 48 ≤ M 231 pt := j2
    have j3 : M 231 pt ≤ 57 := j3
    refine fw_iffd (cc := .eq) (pc := 15) (off := 54) (by decide +kernel) (by decide) ⟨by decide, by decide⟩ (by decide) ?_
    refine gm_sz (gm_p_load (pc := 18) (i := .aload_n 0) (sr := 2) (j := 0) (by decide +kernel) rfl rfl rfl) ?_
    refine gm_sz (fw_gi (pc := 19) (ix := 106) (ci := 11) (j := 9) (x := pt) (by decide +kernel) (tR226 hE) (by decide +kernel) (by decide +kernel) rfl) ?_
    refine gm_sz (gm_p_load (pc := 22) (i := .aload_n 0) (sr := 2) (j := 0) (by decide +kernel) rfl rfl rfl) ?_
    refine gm_sz (fw_gi (pc := 23) (ix := 116) (ci := 11) (j := 11) (x := B) (by decide +kernel) (tR226 hE) (by decide +kernel) (by decide +kernel) rfl) ?_
    refine gm_sz (gm_p_bin (pc := 26) (i := .isub) (f := fun x y => x - y) (by decide +kernel) rfl) ?_
    refine gm_sz (gm_p_load (pc := 27) (i := .iload_n 3) (sr := 0) (j := 3) (by decide +kernel) rfl rfl rfl) ?_
    refine fw_ic (cc := .ge) (pc := 28) (off := 24) (by decide +kernel) (by decide) ⟨by omega, by omega⟩ ⟨by omega, by omega⟩ (fun j4 => ?_) (fun j4 => ?_)
    · have j4 : m ≤ (pt - B) := j4
      refine gm_sz (gm_p_load (pc := 52) (i := .iload 4) (sr := 0) (j := 4) (by decide +kernel) rfl rfl rfl) ?_
      refine gm_sz (gm_p_stor (pc := 54) (i := .istore 4) (sr := 0) (j := 4) (by decide +kernel) rfl (show 5 ≤ _ from Nat.le_of_ble_eq_true rfl) rfl) ?_
      refine gm_sz (gm_p_load (pc := 56) (i := .aload_n 0) (sr := 2) (j := 0) (by decide +kernel) rfl rfl rfl) ?_
      refine gm_sz (gm_p_dup (pc := 57) (by decide +kernel) fw_sr) ?_
      refine gm_sz (fw_gi (pc := 58) (ix := 106) (ci := 11) (j := 9) (x := pt) (by decide +kernel) (tR226 hE) (by decide +kernel) (by decide +kernel) rfl) ?_
      refine gm_sz (gm_p_const (pc := 61) (i := .iconst 1) (v := gm_vi 1) (by decide +kernel) (by decide +kernel)) ?_
      refine gm_sz (gm_p_bin (pc := 62) (i := .iadd) (f := fun x y => x + y) (by decide +kernel) rfl) ?_
      refine gm_sz (fw_pi (pc := 63) (ix := 106) (ci := 11) (j := 9) (M' := rm M (pt + 1) B dp st W) (by decide +kernel) (tR226 hE) (by decide +kernel) (by decide +kernel) (by decide +kernel) rm_pt) ?_
      refine gm_sz (gm_p_goto (pc := 66) (off := (-59)) (by decide +kernel) (by decide)) ?_
      have hdg : tx_d (M 231) pt = true := decide_eq_true (by omega)
      rw [tx_rt (by omega) hdg, tx_ut (by omega) hdg] at kq
      rw [if_neg (show ¬ (pt - B < m ∧ ¬ (if pt - B ≤ m then v else -1) = -1) by omega)] at kq
      refine ih (by omega) v (by omega) ?_ ?_
      · rw [if_neg (show ¬ pt + 1 - B ≤ m by omega)]
        by_cases hc : pt - B ≤ m
        · rw [if_pos hc, show pt - B = m by omega] at hv
          exact hv
        · rw [if_neg hc] at hv
          exact hv
      · rw [if_neg (show ¬ pt + 1 - B ≤ m by omega)]
        exact kq
    · have j4 : ¬ m ≤ (pt - B) := j4
      refine gm_sz (gm_p_const (pc := 31) (i := .bipush 10) (v := gm_vi 10) (by decide +kernel) (by decide +kernel)) ?_
      refine gm_sz (gm_p_load (pc := 33) (i := .iload 4) (sr := 0) (j := 4) (by decide +kernel) rfl rfl rfl) ?_
      refine gm_sz (gm_p_bin (pc := 35) (i := .imul) (f := fun x y => x * y) (by decide +kernel) rfl) ?_
      refine gm_sz (gm_p_load (pc := 36) (i := .aload_n 0) (sr := 2) (j := 0) (by decide +kernel) rfl rfl rfl) ?_
      refine gm_sz (fw_gr (pc := 37) (ix := 26) (ci := 11) (j := 7) (r := 231) (by decide +kernel) (tR226 hE) (by decide +kernel) (by decide +kernel) (tRr hE).2) ?_
      refine gm_sz (gm_p_load (pc := 40) (i := .aload_n 0) (sr := 2) (j := 0) (by decide +kernel) rfl rfl rfl) ?_
      refine gm_sz (fw_gi (pc := 41) (ix := 106) (ci := 11) (j := 9) (x := pt) (by decide +kernel) (tR226 hE) (by decide +kernel) (by decide +kernel) rfl) ?_
      refine gm_sz (fw_ba (pc := 44) (k := 231) (len := 400) (e0 := pt) (x := M 231 pt) (by decide +kernel) (tR231 hE).1 (tR231 hE).2 (by decide) ⟨by omega, by omega⟩ rfl) ?_
      have y5 := tRb hE (j := pt) (by omega) (by omega)
      refine gm_sz (gm_p_bin (pc := 45) (i := .iadd) (f := fun x y => x + y) (by decide +kernel) rfl) ?_
      refine gm_sz (gm_p_const (pc := 46) (i := .bipush 48) (v := gm_vi 48) (by decide +kernel) (by decide +kernel)) ?_
      refine gm_sz (gm_p_bin (pc := 48) (i := .isub) (f := fun x y => x - y) (by decide +kernel) rfl) ?_
      refine gm_sz (gm_p_goto (pc := 49) (off := 5) (by decide +kernel) (by decide)) ?_
      refine gm_sz (gm_p_stor (pc := 54) (i := .istore 4) (sr := 0) (j := 4) (by decide +kernel) rfl (show 5 ≤ _ from Nat.le_of_ble_eq_true rfl) rfl) ?_
      refine gm_sz (gm_p_load (pc := 56) (i := .aload_n 0) (sr := 2) (j := 0) (by decide +kernel) rfl rfl rfl) ?_
      refine gm_sz (gm_p_dup (pc := 57) (by decide +kernel) fw_sr) ?_
      refine gm_sz (fw_gi (pc := 58) (ix := 106) (ci := 11) (j := 9) (x := pt) (by decide +kernel) (tR226 hE) (by decide +kernel) (by decide +kernel) rfl) ?_
      refine gm_sz (gm_p_const (pc := 61) (i := .iconst 1) (v := gm_vi 1) (by decide +kernel) (by decide +kernel)) ?_
      refine gm_sz (gm_p_bin (pc := 62) (i := .iadd) (f := fun x y => x + y) (by decide +kernel) rfl) ?_
      refine gm_sz (fw_pi (pc := 63) (ix := 106) (ci := 11) (j := 9) (M' := rm M (pt + 1) B dp st W) (by decide +kernel) (tR226 hE) (by decide +kernel) (by decide +kernel) (by decide +kernel) rm_pt) ?_
      refine gm_sz (gm_p_goto (pc := 66) (off := (-59)) (by decide +kernel) (by decide)) ?_
      have hdg : tx_d (M 231) pt = true := decide_eq_true (by omega)
      rw [tx_rt (by omega) hdg, tx_ut (by omega) hdg] at kq
      rw [if_pos (show pt - B ≤ m by omega)] at hv kq
      rw [if_pos (show pt - B < m ∧ ¬ v = -1 by omega)] at kq
      have t := tx_tv (v := v) (k := pt - B) (c := M 231 pt) hv (by omega) (by omega)
      rw [show v * 10 + M 231 pt - 48 = 10 * v + M 231 pt - 48 by omega] at t kq
      refine ih (by omega) _ (by omega) ?_ ?_
      · rw [if_pos (show pt + 1 - B ≤ m by omega), show pt + 1 - B = pt - B + 1 by omega]
        exact t
      · rw [if_pos (show pt + 1 - B ≤ m by omega)]
        exact kq
  · show gm_Wp X LX d _ _ 256 15 _ [gm_vi 0] n K R _ Q
    have j1 : ¬ (pt < e ∧ 48 ≤ M 231 pt ∧ M 231 pt ≤ 57) := j1
    refine fw_iftd (cc := .eq) (pc := 15) (off := 54) (by decide +kernel) (by decide) ⟨by decide, by decide⟩ (by decide) ?_
    refine kq v pt (by omega) hpe (tx_rf (fun h h2 => by have := of_decide_eq_true h2; omega)).symm ⟨hv.1, by omega⟩ ?_
    rw [tx_uf (fun h h2 => by have := of_decide_eq_true h2; omega)]
theorem tr_c256 {m : Int} (hd : 2 ≤ d) (hE : tR n K R M e) (hm : 1 ≤ m ∧ m ≤ 4) (hlo : 0 ≤ lo ∧ lo < 2147483648) (hhi : gm_ir hi) (hp : 0 ≤ pt ∧ pt ≤ e) (hg : tx_g (M 231) e pt = b) (h1 : tx_k (M 231) e b = 258 ∧ lo ≤ tx_v (M 231) e m b ∧ tx_v (M 231) e m b ≤ hi → Q (.inl (some (gm_vi (tx_v (M 231) e m b)))) n K R (rm M (tx_s (M 231) e b) b dp st W)) (h0 : ¬ (tx_k (M 231) e b = 258 ∧ lo ≤ tx_v (M 231) e m b ∧ tx_v (M 231) e m b ≤ hi) → ∀ p2, Q (.inl (some (gm_vi (-1)))) n K R (rm M p2 b dp st W)) : gm_Wp X LX d bc bs 256 0 (gm_ent 256 [gm_vr 226, gm_vi lo, gm_vi hi, gm_vi m]) [] n K R (rm M pt bg dp st W) Q := by
  subst hg
  obtain ⟨-, he0, he4⟩ := tRe hE
  obtain ⟨hhi1, hhi2⟩ := hhi
  obtain ⟨hlo1, hlo2⟩ := hlo
  refine gm_sz (gm_p_load (pc := 0) (i := .aload_n 0) (sr := 2) (j := 0) (by decide +kernel) rfl rfl rfl) ?_
  refine gm_c_virt (k := 226) (ci := 11) (mj := 245) (ix := 119) (pc := 1) (as := []) (st := []) (d' := d - 1) (bc' := 0) (bs' := 0) (by decide +kernel) (by decide +kernel) (by decide +kernel) (by decide +kernel) (tR226 hE).1 (tR226 hE).2 (by decide) (by decide +kernel) (show 0 = gm_na 245 by decide +kernel) fw_c0 (show 1 ≤ gm_ml 245 by decide +kernel) (Nat.le_of_ble_eq_true rfl) (by omega) (Nat.zero_le _) (Nat.zero_le _) ?_
  refine tr_c245 (by omega) hE hp rfl ?_
  show gm_Wp X LX d _ _ 256 4 _ [] n K R _ Q
  have g1 : 0 ≤ tx_g (M 231) e pt ∧ tx_g (M 231) e pt ≤ e := by have := tx_gb (f := M 231) hp.2; have := hp.1; omega
  have q2 : tx_g (M 231) e (tx_g (M 231) e pt) = tx_g (M 231) e pt := by rw [← (rfl : tx_g (M 231) e pt = tx_g (M 231) e pt)]; exact tx_gi hp.2
  refine gm_sz (gm_p_const (pc := 4) (i := .iconst 0) (v := gm_vi 0) (by decide +kernel) (by decide +kernel)) ?_
  refine gm_sz (gm_p_stor (pc := 5) (i := .istore 4) (sr := 0) (j := 4) (by decide +kernel) rfl (show 5 ≤ _ from Nat.le_of_ble_eq_true rfl) rfl) ?_
  have hg := g1
  generalize tx_g (M 231) e pt = B at *
  refine tr_n2 (by omega) hE hm ⟨by omega, hlo2⟩ ⟨hhi1, hhi2⟩ hg.1 B hg.1 hg.2 0 (Int.le_refl _) ⟨Int.le_refl _, by have := (tx_tb (k := if B - B ≤ m then B - B else m)).1; omega⟩ (fun v2 p2 hb2 hp2 hr hv2 hu => ?_)
  rw [if_pos (show B - B ≤ m by omega)] at hu
  have key : (tx_k (M 231) e B = 258 ∧ B < p2 ∧ tx_s (M 231) e B = p2 ∧ ((p2 - B ≤ m ∧ tx_v (M 231) e m B = v2) ∨ (m < p2 - B ∧ tx_v (M 231) e m B = -1))) ∨ (¬ tx_k (M 231) e B = 258 ∧ p2 = B) := by
    by_cases h5 : B < e ∧ 48 ≤ M 231 B ∧ M 231 B ≤ 57
    · obtain ⟨t1, t2, t3⟩ := tx_k2 (f := M 231) (m := m) h5.1 h5.2
      have t4 := tx_rs (q := tx_d (M 231)) h5.1 (decide_eq_true h5.2)
      by_cases h6 : p2 - B ≤ m
      · rw [if_pos h6] at hu
        exact Or.inl ⟨t1, by omega, by omega, Or.inl ⟨h6, t3.trans hu.symm⟩⟩
      · rw [if_neg h6] at hu
        exact Or.inl ⟨t1, by omega, by omega, Or.inr ⟨by omega, t3.trans hu.symm⟩⟩
    · refine Or.inr ⟨fun h6 => ?_, ?_⟩
      · have h7 := tx_kne (f := M 231) (e := e) (b := B) (by omega)
        by_cases h8 : 97 ≤ M 231 B ∧ M 231 B ≤ 122
        · have := (tx_k1 (m := 0) h7 h8).1
          omega
        · have := (tx_k3 (f := M 231) (m := 0) h7 h8 (fun h => h5 ⟨h7, h⟩)).1
          omega
      · rw [hr]
        exact tx_rf (fun h h2 => h5 ⟨h, of_decide_eq_true h2⟩)
  clear hu hr
  refine gm_sz (gm_p_load (pc := 69) (i := .aload_n 0) (sr := 2) (j := 0) (by decide +kernel) rfl rfl rfl) ?_
  refine gm_sz (fw_gi (pc := 70) (ix := 106) (ci := 11) (j := 9) (x := p2) (by decide +kernel) (tR226 hE) (by decide +kernel) (by decide +kernel) rfl) ?_
  refine gm_sz (gm_p_load (pc := 73) (i := .aload_n 0) (sr := 2) (j := 0) (by decide +kernel) rfl rfl rfl) ?_
  refine gm_sz (fw_gi (pc := 74) (ix := 116) (ci := 11) (j := 11) (x := B) (by decide +kernel) (tR226 hE) (by decide +kernel) (by decide +kernel) rfl) ?_
  refine fw_ic (cc := .eq) (pc := 77) (off := 28) (by decide +kernel) (by decide) ⟨by omega, by omega⟩ ⟨by omega, by omega⟩ (fun j1 => ?_) (fun j1 => ?_)
  · have j1 : p2 = B := j1
    refine gm_sz (gm_p_const (pc := 105) (i := .iconst (-1)) (v := gm_vi (-1)) (by decide +kernel) (by decide +kernel)) ?_
    refine gm_sz (gm_p_goto (pc := 106) (off := 5) (by decide +kernel) (by decide)) ?_
    exact gm_r_int (pc := 111) (by decide +kernel) (Or.inl (by decide +kernel)) (h0 (by omega) p2)
  · have j1 : ¬ p2 = B := j1
    refine gm_sz (gm_p_load (pc := 80) (i := .aload_n 0) (sr := 2) (j := 0) (by decide +kernel) rfl rfl rfl) ?_
    refine gm_sz (fw_gi (pc := 81) (ix := 106) (ci := 11) (j := 9) (x := p2) (by decide +kernel) (tR226 hE) (by decide +kernel) (by decide +kernel) rfl) ?_
    refine gm_sz (gm_p_load (pc := 84) (i := .aload_n 0) (sr := 2) (j := 0) (by decide +kernel) rfl rfl rfl) ?_
    refine gm_sz (fw_gi (pc := 85) (ix := 116) (ci := 11) (j := 11) (x := B) (by decide +kernel) (tR226 hE) (by decide +kernel) (by decide +kernel) rfl) ?_
    refine gm_sz (gm_p_bin (pc := 88) (i := .isub) (f := fun x y => x - y) (by decide +kernel) rfl) ?_
    refine gm_sz (gm_p_load (pc := 89) (i := .iload_n 3) (sr := 0) (j := 3) (by decide +kernel) rfl rfl rfl) ?_
    refine fw_ic (cc := .gt) (pc := 90) (off := 15) (by decide +kernel) (by decide) ⟨by omega, by omega⟩ ⟨by omega, by omega⟩ (fun j2 => ?_) (fun j2 => ?_)
    · have j2 : m < (p2 - B) := j2
      refine gm_sz (gm_p_const (pc := 105) (i := .iconst (-1)) (v := gm_vi (-1)) (by decide +kernel) (by decide +kernel)) ?_
      refine gm_sz (gm_p_goto (pc := 106) (off := 5) (by decide +kernel) (by decide)) ?_
      exact gm_r_int (pc := 111) (by decide +kernel) (Or.inl (by decide +kernel)) (h0 (by omega) p2)
    · have j2 : ¬ m < (p2 - B) := j2
      refine gm_sz (gm_p_load (pc := 93) (i := .iload 4) (sr := 0) (j := 4) (by decide +kernel) rfl rfl rfl) ?_
      refine gm_sz (gm_p_load (pc := 95) (i := .iload_n 1) (sr := 0) (j := 1) (by decide +kernel) rfl rfl rfl) ?_
      refine fw_ic (cc := .lt) (pc := 96) (off := 9) (by decide +kernel) (by decide) ⟨by omega, by omega⟩ ⟨by omega, by omega⟩ (fun j3 => ?_) (fun j3 => ?_)
      · have j3 : v2 < lo := j3
        refine gm_sz (gm_p_const (pc := 105) (i := .iconst (-1)) (v := gm_vi (-1)) (by decide +kernel) (by decide +kernel)) ?_
        refine gm_sz (gm_p_goto (pc := 106) (off := 5) (by decide +kernel) (by decide)) ?_
        exact gm_r_int (pc := 111) (by decide +kernel) (Or.inl (by decide +kernel)) (h0 (by omega) p2)
      · have j3 : ¬ v2 < lo := j3
        refine gm_sz (gm_p_load (pc := 99) (i := .iload 4) (sr := 0) (j := 4) (by decide +kernel) rfl rfl rfl) ?_
        refine gm_sz (gm_p_load (pc := 101) (i := .iload_n 2) (sr := 0) (j := 2) (by decide +kernel) rfl rfl rfl) ?_
        refine fw_ic (cc := .le) (pc := 102) (off := 7) (by decide +kernel) (by decide) ⟨by omega, by omega⟩ ⟨by omega, by omega⟩ (fun j4 => ?_) (fun j4 => ?_)
        · have j4 : v2 ≤ hi := j4
          refine gm_sz (gm_p_load (pc := 109) (i := .iload 4) (sr := 0) (j := 4) (by decide +kernel) rfl rfl rfl) ?_
          have h1 := h1 (by omega)
          rw [show tx_v (M 231) e m B = v2 by omega, show tx_s (M 231) e B = p2 by omega] at h1
          exact gm_r_int (pc := 111) (by decide +kernel) (Or.inl (by decide +kernel)) h1
        · have j4 : ¬ v2 ≤ hi := j4
          refine gm_sz (gm_p_const (pc := 105) (i := .iconst (-1)) (v := gm_vi (-1)) (by decide +kernel) (by decide +kernel)) ?_
          refine gm_sz (gm_p_goto (pc := 106) (off := 5) (by decide +kernel) (by decide)) ?_
          exact gm_r_int (pc := 111) (by decide +kernel) (Or.inl (by decide +kernel)) (h0 (by omega) p2)
theorem tr_c279 {x y : Int} (hE : tR n K R M e) (hs : 0 ≤ st ∧ st ≤ 399) (hq : ∀ W2, Q (.inl none) n K R (rm M pt bg dp (st + 1) W2)) : gm_Wp X LX d bc bs 279 0 (gm_ent 279 [gm_vr 226, gm_vi x, gm_vi y]) [] n K R (rm M pt bg dp st W) Q := by
  refine gm_sz (gm_p_load (pc := 0) (i := .aload_n 0) (sr := 2) (j := 0) (by decide +kernel) rfl rfl rfl) ?_
  refine gm_sz (fw_gr (pc := 1) (ix := 13) (ci := 11) (j := 1) (r := 227) (by decide +kernel) (tR226 hE) (by decide +kernel) (by decide +kernel) (tRr hE).1) ?_
  refine gm_sz (gm_p_const (pc := 4) (i := .sipush 1293) (v := gm_vi 1293) (by decide +kernel) (by decide +kernel)) ?_
  refine gm_sz (gm_p_const (pc := 7) (i := .iconst 2) (v := gm_vi 2) (by decide +kernel) (by decide +kernel)) ?_
  refine gm_sz (gm_p_load (pc := 8) (i := .aload_n 0) (sr := 2) (j := 0) (by decide +kernel) rfl rfl rfl) ?_
  refine gm_sz (fw_gi (pc := 9) (ix := 224) (ci := 11) (j := 15) (x := st) (by decide +kernel) (tR226 hE) (by decide +kernel) (by decide +kernel) rfl) ?_
  refine gm_sz (gm_p_bin (pc := 12) (i := .imul) (f := fun x y => x * y) (by decide +kernel) rfl) ?_
  refine gm_sz (gm_p_bin (pc := 13) (i := .iadd) (f := fun x y => x + y) (by decide +kernel) rfl) ?_
  refine gm_sz (gm_p_load (pc := 14) (i := .iload_n 1) (sr := 0) (j := 1) (by decide +kernel) rfl rfl rfl) ?_
  refine gm_sz (fw_is (pc := 15) (k := 227) (len := 2093) (e0 := 1293 + (2 * st)) (x := x) (M' := rm M pt bg dp st (fun t9 => if t9 = 1293 + (2 * st) then x else W t9)) (by decide +kernel) (tR227 hE).1 (tR227 hE).2 (by decide) ⟨by omega, by omega⟩ rm_W) ?_
  refine gm_sz (gm_p_load (pc := 16) (i := .aload_n 0) (sr := 2) (j := 0) (by decide +kernel) rfl rfl rfl) ?_
  refine gm_sz (fw_gr (pc := 17) (ix := 13) (ci := 11) (j := 1) (r := 227) (by decide +kernel) (tR226 hE) (by decide +kernel) (by decide +kernel) (tRr hE).1) ?_
  refine gm_sz (gm_p_const (pc := 20) (i := .sipush 1293) (v := gm_vi 1293) (by decide +kernel) (by decide +kernel)) ?_
  refine gm_sz (gm_p_const (pc := 23) (i := .iconst 2) (v := gm_vi 2) (by decide +kernel) (by decide +kernel)) ?_
  refine gm_sz (gm_p_load (pc := 24) (i := .aload_n 0) (sr := 2) (j := 0) (by decide +kernel) rfl rfl rfl) ?_
  refine gm_sz (fw_gi (pc := 25) (ix := 224) (ci := 11) (j := 15) (x := st) (by decide +kernel) (tR226 hE) (by decide +kernel) (by decide +kernel) rfl) ?_
  refine gm_sz (gm_p_bin (pc := 28) (i := .imul) (f := fun x y => x * y) (by decide +kernel) rfl) ?_
  refine gm_sz (gm_p_bin (pc := 29) (i := .iadd) (f := fun x y => x + y) (by decide +kernel) rfl) ?_
  refine gm_sz (gm_p_const (pc := 30) (i := .iconst 1) (v := gm_vi 1) (by decide +kernel) (by decide +kernel)) ?_
  refine gm_sz (gm_p_bin (pc := 31) (i := .iadd) (f := fun x y => x + y) (by decide +kernel) rfl) ?_
  refine gm_sz (gm_p_load (pc := 32) (i := .iload_n 2) (sr := 0) (j := 2) (by decide +kernel) rfl rfl rfl) ?_
  refine gm_sz (fw_is (pc := 33) (k := 227) (len := 2093) (e0 := (1293 + (2 * st)) + 1) (x := y) (M' := rm M pt bg dp st (fun t9 => if t9 = (1293 + (2 * st)) + 1 then y else (fun t9 => if t9 = 1293 + (2 * st) then x else W t9) t9)) (by decide +kernel) (tR227 hE).1 (tR227 hE).2 (by decide) ⟨by omega, by omega⟩ rm_W) ?_
  refine gm_sz (gm_p_load (pc := 34) (i := .aload_n 0) (sr := 2) (j := 0) (by decide +kernel) rfl rfl rfl) ?_
  refine gm_sz (gm_p_dup (pc := 35) (by decide +kernel) fw_sr) ?_
  refine gm_sz (fw_gi (pc := 36) (ix := 224) (ci := 11) (j := 15) (x := st) (by decide +kernel) (tR226 hE) (by decide +kernel) (by decide +kernel) rfl) ?_
  refine gm_sz (gm_p_const (pc := 39) (i := .iconst 1) (v := gm_vi 1) (by decide +kernel) (by decide +kernel)) ?_
  refine gm_sz (gm_p_bin (pc := 40) (i := .iadd) (f := fun x y => x + y) (by decide +kernel) rfl) ?_
  refine gm_sz (fw_pi (pc := 41) (ix := 224) (ci := 11) (j := 15) (M' := rm M pt bg dp (st + 1) (fun t9 => if t9 = (1293 + (2 * st)) + 1 then y else (fun t9 => if t9 = 1293 + (2 * st) then x else W t9) t9)) (by decide +kernel) (tR226 hE) (by decide +kernel) (by decide +kernel) (by decide +kernel) rm_st) ?_
  exact gm_r_void (pc := 44) (by decide +kernel) (by decide +kernel) (hq _)
end RW
end
/-! 79j.rl -/
section
/-! THE REFERENCE'S READER OF A LAW, method by method (laid by wip/pp/p5r.py). -/
/-- a method that says whether G stands at the next token -/
def cR (X : Int → Int) (LX n : Nat) (K : gm_K) (R : gm_R) (M : gm_M) (e dp : Int) (mi : Nat) (G : Int → Bool × Int) (dn : Nat) : Prop := ∀ (d bc bs : Nat) (pt b bg st : Int) (W : Int → Int) (Q : gm_Q), dn ≤ d → 0 ≤ pt ∧ pt ≤ e → tx_g (M 231) e pt = b → 0 ≤ st ∧ st + 1 ≤ pt → (∀ p2 bg2 st2 W2, (G b).1 = true → 0 ≤ p2 ∧ p2 ≤ e → tx_g (M 231) e p2 = (G b).2 → 0 ≤ st2 ∧ st2 - st ≤ p2 - pt ∧ pt ≤ p2 → Q (.inl (some (gm_vi 1))) n K R (rm M p2 bg2 dp st2 W2)) → (∀ p2 dp2 st2 W2, ¬ (G b).1 = true → Q (.inl (some (gm_vi 0))) n K R (rm M p2 (G b).2 dp2 st2 W2)) → gm_Wp X LX d bc bs mi 0 (gm_ent mi [gm_vr 226]) [] n K R (rm M pt bg dp st W) Q
noncomputable def g_par (f : Int → Int) (e b : Int) : Bool × Int := tif (g_pt f e b) (true, tx_n f e b) (false, b)
theorem g_p1 {f : Int → Int} {e b : Int} (h : g_pt f e b) : g_par f e b = (true, tx_n f e b) := tif_t h
theorem g_p0 {f : Int → Int} {e b : Int} (h : ¬ g_pt f e b) : g_par f e b = (false, b) := tif_f h
theorem g_par_in {f : Int → Int} {e : Int} : g_in e (g_par f e) := by
  intro b h0 h1
  by_cases h : g_pt f e b
  · rw [g_p1 h]
    obtain ⟨a1, a2, a3⟩ := tx_nb (f := f) h1
    exact ⟨a1, a2, fun _ => a3 (g_pk h)⟩
  · rw [g_p0 h]
    exact ⟨Int.le_refl _, h1, fun h => by cases h⟩
section RL
variable {X : Int → Int} {LX d bc bs n : Nat} {K : gm_K} {R : gm_R} {M : gm_M} {Q : gm_Q} {e pt bg dp st b : Int} {W : Int → Int}
theorem tr_c281 (hE : tR n K R M e) : cR X LX n K R M e dp 281 (g_par (M 231) e) 8 := by
  obtain ⟨-, he0, he4⟩ := tRe hE
  intro d bc bs pt b bg st W Q hd hp hg hst h1 h0
  obtain ⟨hg1, hg2, -⟩ := tx_gb (f := M 231) hp.2
  rw [hg] at hg1 hg2
  have hb : 0 ≤ b ∧ b ≤ e := ⟨by omega, hg2⟩
  have hkb := tx_kc (f := M 231) (e := e) (b := b) (fun h => tRb hE hb.1 (by omega))
  obtain ⟨hs1, hs2, hs3⟩ := tx_sb (f := M 231) hb.2
  refine gm_sz (gm_p_load (pc := 0) (i := .aload_n 0) (sr := 2) (j := 0) (by decide +kernel) rfl rfl rfl) ?_
  refine gm_c_virt (k := 226) (ci := 11) (mj := 248) (ix := 131) (pc := 1) (as := []) (st := []) (d' := d - 1) (bc' := 0) (bs' := 0) (by decide +kernel) (by decide +kernel) (by decide +kernel) (by decide +kernel) (tR226 hE).1 (tR226 hE).2 (by decide) (by decide +kernel) (show 0 = gm_na 248 by decide +kernel) fw_c0 (show 1 ≤ gm_ml 248 by decide +kernel) (Nat.le_of_ble_eq_true rfl) (by omega) (Nat.zero_le _) (Nat.zero_le _) ?_
  refine tr_c248 (by omega) hE hp hg ?_
  show gm_Wp X LX d _ _ 281 4 _ [] n K R _ Q
  have q2 : tx_g (M 231) e b = b := by rw [← hg]; exact tx_gi hp.2
  have g1 : 0 ≤ tx_r (tx_l (M 231)) e b ∧ tx_r (tx_l (M 231)) e b ≤ e := by have := tx_rb (q := tx_l (M 231)) (e := e) _ b rfl hb.2; omega
  refine gm_sz (gm_p_load (pc := 4) (i := .aload_n 0) (sr := 2) (j := 0) (by decide +kernel) rfl rfl rfl) ?_
  refine gm_sz (fw_gi (pc := 5) (ix := 106) (ci := 11) (j := 9) (x := tx_r (tx_l (M 231)) e b) (by decide +kernel) (tR226 hE) (by decide +kernel) (by decide +kernel) rfl) ?_
  refine gm_sz (gm_p_load (pc := 8) (i := .aload_n 0) (sr := 2) (j := 0) (by decide +kernel) rfl rfl rfl) ?_
  refine gm_sz (fw_gi (pc := 9) (ix := 116) (ci := 11) (j := 11) (x := b) (by decide +kernel) (tR226 hE) (by decide +kernel) (by decide +kernel) rfl) ?_
  refine fw_ic (cc := .ne) (pc := 12) (off := 23) (by decide +kernel) (by decide) ⟨by omega, by omega⟩ ⟨by omega, by omega⟩ (fun j3 => ?_) (fun j3 => ?_)
  · have j3 : ¬ (tx_r (tx_l (M 231)) e b) = b := j3
    refine gm_sz (gm_p_load (pc := 35) (i := .aload_n 0) (sr := 2) (j := 0) (by decide +kernel) rfl rfl rfl) ?_
    refine gm_sz (gm_p_ldcs (pc := 36) (i := .ldc 231) (ix := 231) (id := 66) (by decide +kernel) (Or.inl rfl) (by decide +kernel)) ?_
    refine gm_c_virt (k := 226) (ci := 11) (mj := 250) (ix := 134) (pc := 38) (as := [gm_vo 66]) (st := []) (d' := d - 1) (bc' := 0) (bs' := 0) (by decide +kernel) (by decide +kernel) (by decide +kernel) (by decide +kernel) (tR226 hE).1 (tR226 hE).2 (by decide) (by decide +kernel) (show 1 = gm_na 250 by decide +kernel) (fw_c1 fw_so) (show 2 ≤ gm_ml 250 by decide +kernel) (Nat.le_of_ble_eq_true rfl) (by omega) (Nat.zero_le _) (Nat.zero_le _) ?_
    refine tr_c250 (by omega) hE (by decide) (show tx_o 66 = wo_lane by decide +kernel) ⟨hb.1, (tx_rb (q := tx_l (M 231)) (e := e) _ b rfl hb.2).1, (tx_rb (q := tx_l (M 231)) (e := e) _ b rfl hb.2).2.1⟩ (fun j4 => ?_) (fun j4 => ?_)
    · show gm_Wp X LX d _ _ 281 41 _ [gm_vi 1] n K R _ Q
      have j4 : tx_is (M 231) e b wo_lane := (tr_is hb (by decide)).mp j4
      have q5 : tx_g (M 231) e (tx_r (tx_l (M 231)) e b) = tx_n (M 231) e b := by rw [← tx_s1 j4]; rfl
      have g7 : 0 ≤ tx_n (M 231) e b ∧ tx_n (M 231) e b ≤ e := by have := tx_nb (f := M 231) (b := b) hb.2; have := hb.1; omega
      have g6 : b + 1 ≤ tx_r (tx_l (M 231)) e b := by have := (tx_sb (f := M 231) hb.2).2.2 (g_isb j4); rwa [tx_s1 j4] at this
      refine fw_iffd (cc := .eq) (pc := 41) (off := 7) (by decide +kernel) (by decide) ⟨by decide, by decide⟩ (by decide) ?_
      refine gm_sz (gm_p_const (pc := 44) (i := .iconst 0) (v := gm_vi 0) (by decide +kernel) (by decide +kernel)) ?_
      refine gm_sz (gm_p_goto (pc := 45) (off := 97) (by decide +kernel) (by decide)) ?_
      refine gm_sz (gm_p_stor (pc := 142) (i := .istore_n 1) (sr := 0) (j := 1) (by decide +kernel) rfl (show 2 ≤ _ from Nat.le_of_ble_eq_true rfl) rfl) ?_
      refine gm_sz (gm_p_load (pc := 143) (i := .aload_n 0) (sr := 2) (j := 0) (by decide +kernel) rfl rfl rfl) ?_
      refine gm_sz (gm_p_load (pc := 144) (i := .iload_n 1) (sr := 0) (j := 1) (by decide +kernel) rfl rfl rfl) ?_
      refine gm_sz (gm_p_const (pc := 145) (i := .iconst 0) (v := gm_vi 0) (by decide +kernel) (by decide +kernel)) ?_
      refine gm_c_virt (k := 226) (ci := 11) (mj := 279) (ix := 227) (pc := 146) (as := [gm_vi 0, gm_vi 0]) (st := []) (d' := d - 1) (bc' := 0) (bs' := 0) (by decide +kernel) (by decide +kernel) (by decide +kernel) (by decide +kernel) (tR226 hE).1 (tR226 hE).2 (by decide) (by decide +kernel) (show 2 = gm_na 279 by decide +kernel) (fw_c2 fw_si fw_si) (show 3 ≤ gm_ml 279 by decide +kernel) (Nat.le_of_ble_eq_true rfl) (by omega) (Nat.zero_le _) (Nat.zero_le _) ?_
      refine tr_c279 hE ⟨by omega, by omega⟩ (fun W8 => ?_)
      show gm_Wp X LX d _ _ 281 149 _ [] n K R _ Q
      refine gm_sz (gm_p_load (pc := 149) (i := .iload_n 1) (sr := 0) (j := 1) (by decide +kernel) rfl rfl rfl) ?_
      refine fw_iffd (cc := .lt) (pc := 150) (off := 7) (by decide +kernel) (by decide) ⟨by decide, by decide⟩ (by decide) ?_
      refine gm_sz (gm_p_const (pc := 153) (i := .iconst 1) (v := gm_vi 1) (by decide +kernel) (by decide +kernel)) ?_
      refine gm_sz (gm_p_goto (pc := 154) (off := 4) (by decide +kernel) (by decide)) ?_
      rw [g_p1 (Or.inr (Or.inl j4))] at h1
      have hs3 := hs3 (g_isb j4)
      rw [tx_s1 j4] at hs1 hs2 hs3
      refine gm_r_int (pc := 158) (by decide +kernel) (Or.inr ⟨(by decide +kernel), Or.inr rfl⟩) (h1 _ _ _ _ rfl ⟨by omega, by omega⟩ ?_ ⟨by omega, by omega, by omega⟩)
      rw [← tx_s1 j4]
      rfl
    · show gm_Wp X LX d _ _ 281 41 _ [gm_vi 0] n K R _ Q
      have j4 : ¬ tx_is (M 231) e b wo_lane := fun hh => j4 ((tr_is hb (by decide)).mpr hh)
      refine fw_iftd (cc := .eq) (pc := 41) (off := 7) (by decide +kernel) (by decide) ⟨by decide, by decide⟩ (by decide) ?_
      refine gm_sz (gm_p_load (pc := 48) (i := .aload_n 0) (sr := 2) (j := 0) (by decide +kernel) rfl rfl rfl) ?_
      refine gm_sz (gm_p_ldcs (pc := 49) (i := .ldc 233) (ix := 233) (id := 67) (by decide +kernel) (Or.inl rfl) (by decide +kernel)) ?_
      refine gm_c_virt (k := 226) (ci := 11) (mj := 250) (ix := 134) (pc := 51) (as := [gm_vo 67]) (st := []) (d' := d - 1) (bc' := 0) (bs' := 0) (by decide +kernel) (by decide +kernel) (by decide +kernel) (by decide +kernel) (tR226 hE).1 (tR226 hE).2 (by decide) (by decide +kernel) (show 1 = gm_na 250 by decide +kernel) (fw_c1 fw_so) (show 2 ≤ gm_ml 250 by decide +kernel) (Nat.le_of_ble_eq_true rfl) (by omega) (Nat.zero_le _) (Nat.zero_le _) ?_
      refine tr_c250 (by omega) hE (by decide) (show tx_o 67 = wo_row by decide +kernel) ⟨hb.1, (tx_rb (q := tx_l (M 231)) (e := e) _ b rfl hb.2).1, (tx_rb (q := tx_l (M 231)) (e := e) _ b rfl hb.2).2.1⟩ (fun j9 => ?_) (fun j9 => ?_)
      · show gm_Wp X LX d _ _ 281 54 _ [gm_vi 1] n K R _ Q
        have j9 : tx_is (M 231) e b wo_row := (tr_is hb (by decide)).mp j9
        have q10 : tx_g (M 231) e (tx_r (tx_l (M 231)) e b) = tx_n (M 231) e b := by rw [← tx_s1 j9]; rfl
        have g12 : 0 ≤ tx_n (M 231) e b ∧ tx_n (M 231) e b ≤ e := by have := tx_nb (f := M 231) (b := b) hb.2; have := hb.1; omega
        have g11 : b + 1 ≤ tx_r (tx_l (M 231)) e b := by have := (tx_sb (f := M 231) hb.2).2.2 (g_isb j9); rwa [tx_s1 j9] at this
        refine fw_iffd (cc := .eq) (pc := 54) (off := 7) (by decide +kernel) (by decide) ⟨by decide, by decide⟩ (by decide) ?_
        refine gm_sz (gm_p_const (pc := 57) (i := .iconst 1) (v := gm_vi 1) (by decide +kernel) (by decide +kernel)) ?_
        refine gm_sz (gm_p_goto (pc := 58) (off := 84) (by decide +kernel) (by decide)) ?_
        refine gm_sz (gm_p_stor (pc := 142) (i := .istore_n 1) (sr := 0) (j := 1) (by decide +kernel) rfl (show 2 ≤ _ from Nat.le_of_ble_eq_true rfl) rfl) ?_
        refine gm_sz (gm_p_load (pc := 143) (i := .aload_n 0) (sr := 2) (j := 0) (by decide +kernel) rfl rfl rfl) ?_
        refine gm_sz (gm_p_load (pc := 144) (i := .iload_n 1) (sr := 0) (j := 1) (by decide +kernel) rfl rfl rfl) ?_
        refine gm_sz (gm_p_const (pc := 145) (i := .iconst 0) (v := gm_vi 0) (by decide +kernel) (by decide +kernel)) ?_
        refine gm_c_virt (k := 226) (ci := 11) (mj := 279) (ix := 227) (pc := 146) (as := [gm_vi 1, gm_vi 0]) (st := []) (d' := d - 1) (bc' := 0) (bs' := 0) (by decide +kernel) (by decide +kernel) (by decide +kernel) (by decide +kernel) (tR226 hE).1 (tR226 hE).2 (by decide) (by decide +kernel) (show 2 = gm_na 279 by decide +kernel) (fw_c2 fw_si fw_si) (show 3 ≤ gm_ml 279 by decide +kernel) (Nat.le_of_ble_eq_true rfl) (by omega) (Nat.zero_le _) (Nat.zero_le _) ?_
        refine tr_c279 hE ⟨by omega, by omega⟩ (fun W13 => ?_)
        show gm_Wp X LX d _ _ 281 149 _ [] n K R _ Q
        refine gm_sz (gm_p_load (pc := 149) (i := .iload_n 1) (sr := 0) (j := 1) (by decide +kernel) rfl rfl rfl) ?_
        refine fw_iffd (cc := .lt) (pc := 150) (off := 7) (by decide +kernel) (by decide) ⟨by decide, by decide⟩ (by decide) ?_
        refine gm_sz (gm_p_const (pc := 153) (i := .iconst 1) (v := gm_vi 1) (by decide +kernel) (by decide +kernel)) ?_
        refine gm_sz (gm_p_goto (pc := 154) (off := 4) (by decide +kernel) (by decide)) ?_
        rw [g_p1 (Or.inr (Or.inr (Or.inl j9)))] at h1
        have hs3 := hs3 (g_isb j9)
        rw [tx_s1 j9] at hs1 hs2 hs3
        refine gm_r_int (pc := 158) (by decide +kernel) (Or.inr ⟨(by decide +kernel), Or.inr rfl⟩) (h1 _ _ _ _ rfl ⟨by omega, by omega⟩ ?_ ⟨by omega, by omega, by omega⟩)
        rw [← tx_s1 j9]
        rfl
      · show gm_Wp X LX d _ _ 281 54 _ [gm_vi 0] n K R _ Q
        have j9 : ¬ tx_is (M 231) e b wo_row := fun hh => j9 ((tr_is hb (by decide)).mpr hh)
        refine fw_iftd (cc := .eq) (pc := 54) (off := 7) (by decide +kernel) (by decide) ⟨by decide, by decide⟩ (by decide) ?_
        refine gm_sz (gm_p_load (pc := 61) (i := .aload_n 0) (sr := 2) (j := 0) (by decide +kernel) rfl rfl rfl) ?_
        refine gm_sz (gm_p_ldcs (pc := 62) (i := .ldc 235) (ix := 235) (id := 68) (by decide +kernel) (Or.inl rfl) (by decide +kernel)) ?_
        refine gm_c_virt (k := 226) (ci := 11) (mj := 250) (ix := 134) (pc := 64) (as := [gm_vo 68]) (st := []) (d' := d - 1) (bc' := 0) (bs' := 0) (by decide +kernel) (by decide +kernel) (by decide +kernel) (by decide +kernel) (tR226 hE).1 (tR226 hE).2 (by decide) (by decide +kernel) (show 1 = gm_na 250 by decide +kernel) (fw_c1 fw_so) (show 2 ≤ gm_ml 250 by decide +kernel) (Nat.le_of_ble_eq_true rfl) (by omega) (Nat.zero_le _) (Nat.zero_le _) ?_
        refine tr_c250 (by omega) hE (by decide) (show tx_o 68 = wo_year by decide +kernel) ⟨hb.1, (tx_rb (q := tx_l (M 231)) (e := e) _ b rfl hb.2).1, (tx_rb (q := tx_l (M 231)) (e := e) _ b rfl hb.2).2.1⟩ (fun j14 => ?_) (fun j14 => ?_)
        · show gm_Wp X LX d _ _ 281 67 _ [gm_vi 1] n K R _ Q
          have j14 : tx_is (M 231) e b wo_year := (tr_is hb (by decide)).mp j14
          have q15 : tx_g (M 231) e (tx_r (tx_l (M 231)) e b) = tx_n (M 231) e b := by rw [← tx_s1 j14]; rfl
          have g17 : 0 ≤ tx_n (M 231) e b ∧ tx_n (M 231) e b ≤ e := by have := tx_nb (f := M 231) (b := b) hb.2; have := hb.1; omega
          have g16 : b + 1 ≤ tx_r (tx_l (M 231)) e b := by have := (tx_sb (f := M 231) hb.2).2.2 (g_isb j14); rwa [tx_s1 j14] at this
          refine fw_iffd (cc := .eq) (pc := 67) (off := 7) (by decide +kernel) (by decide) ⟨by decide, by decide⟩ (by decide) ?_
          refine gm_sz (gm_p_const (pc := 70) (i := .iconst 2) (v := gm_vi 2) (by decide +kernel) (by decide +kernel)) ?_
          refine gm_sz (gm_p_goto (pc := 71) (off := 71) (by decide +kernel) (by decide)) ?_
          refine gm_sz (gm_p_stor (pc := 142) (i := .istore_n 1) (sr := 0) (j := 1) (by decide +kernel) rfl (show 2 ≤ _ from Nat.le_of_ble_eq_true rfl) rfl) ?_
          refine gm_sz (gm_p_load (pc := 143) (i := .aload_n 0) (sr := 2) (j := 0) (by decide +kernel) rfl rfl rfl) ?_
          refine gm_sz (gm_p_load (pc := 144) (i := .iload_n 1) (sr := 0) (j := 1) (by decide +kernel) rfl rfl rfl) ?_
          refine gm_sz (gm_p_const (pc := 145) (i := .iconst 0) (v := gm_vi 0) (by decide +kernel) (by decide +kernel)) ?_
          refine gm_c_virt (k := 226) (ci := 11) (mj := 279) (ix := 227) (pc := 146) (as := [gm_vi 2, gm_vi 0]) (st := []) (d' := d - 1) (bc' := 0) (bs' := 0) (by decide +kernel) (by decide +kernel) (by decide +kernel) (by decide +kernel) (tR226 hE).1 (tR226 hE).2 (by decide) (by decide +kernel) (show 2 = gm_na 279 by decide +kernel) (fw_c2 fw_si fw_si) (show 3 ≤ gm_ml 279 by decide +kernel) (Nat.le_of_ble_eq_true rfl) (by omega) (Nat.zero_le _) (Nat.zero_le _) ?_
          refine tr_c279 hE ⟨by omega, by omega⟩ (fun W18 => ?_)
          show gm_Wp X LX d _ _ 281 149 _ [] n K R _ Q
          refine gm_sz (gm_p_load (pc := 149) (i := .iload_n 1) (sr := 0) (j := 1) (by decide +kernel) rfl rfl rfl) ?_
          refine fw_iffd (cc := .lt) (pc := 150) (off := 7) (by decide +kernel) (by decide) ⟨by decide, by decide⟩ (by decide) ?_
          refine gm_sz (gm_p_const (pc := 153) (i := .iconst 1) (v := gm_vi 1) (by decide +kernel) (by decide +kernel)) ?_
          refine gm_sz (gm_p_goto (pc := 154) (off := 4) (by decide +kernel) (by decide)) ?_
          rw [g_p1 (Or.inr (Or.inr (Or.inr (Or.inl j14))))] at h1
          have hs3 := hs3 (g_isb j14)
          rw [tx_s1 j14] at hs1 hs2 hs3
          refine gm_r_int (pc := 158) (by decide +kernel) (Or.inr ⟨(by decide +kernel), Or.inr rfl⟩) (h1 _ _ _ _ rfl ⟨by omega, by omega⟩ ?_ ⟨by omega, by omega, by omega⟩)
          rw [← tx_s1 j14]
          rfl
        · show gm_Wp X LX d _ _ 281 67 _ [gm_vi 0] n K R _ Q
          have j14 : ¬ tx_is (M 231) e b wo_year := fun hh => j14 ((tr_is hb (by decide)).mpr hh)
          refine fw_iftd (cc := .eq) (pc := 67) (off := 7) (by decide +kernel) (by decide) ⟨by decide, by decide⟩ (by decide) ?_
          refine gm_sz (gm_p_load (pc := 74) (i := .aload_n 0) (sr := 2) (j := 0) (by decide +kernel) rfl rfl rfl) ?_
          refine gm_sz (gm_p_ldcs (pc := 75) (i := .ldc 237) (ix := 237) (id := 69) (by decide +kernel) (Or.inl rfl) (by decide +kernel)) ?_
          refine gm_c_virt (k := 226) (ci := 11) (mj := 250) (ix := 134) (pc := 77) (as := [gm_vo 69]) (st := []) (d' := d - 1) (bc' := 0) (bs' := 0) (by decide +kernel) (by decide +kernel) (by decide +kernel) (by decide +kernel) (tR226 hE).1 (tR226 hE).2 (by decide) (by decide +kernel) (show 1 = gm_na 250 by decide +kernel) (fw_c1 fw_so) (show 2 ≤ gm_ml 250 by decide +kernel) (Nat.le_of_ble_eq_true rfl) (by omega) (Nat.zero_le _) (Nat.zero_le _) ?_
          refine tr_c250 (by omega) hE (by decide) (show tx_o 69 = wo_heat by decide +kernel) ⟨hb.1, (tx_rb (q := tx_l (M 231)) (e := e) _ b rfl hb.2).1, (tx_rb (q := tx_l (M 231)) (e := e) _ b rfl hb.2).2.1⟩ (fun j19 => ?_) (fun j19 => ?_)
          · show gm_Wp X LX d _ _ 281 80 _ [gm_vi 1] n K R _ Q
            have j19 : tx_is (M 231) e b wo_heat := (tr_is hb (by decide)).mp j19
            have q20 : tx_g (M 231) e (tx_r (tx_l (M 231)) e b) = tx_n (M 231) e b := by rw [← tx_s1 j19]; rfl
            have g22 : 0 ≤ tx_n (M 231) e b ∧ tx_n (M 231) e b ≤ e := by have := tx_nb (f := M 231) (b := b) hb.2; have := hb.1; omega
            have g21 : b + 1 ≤ tx_r (tx_l (M 231)) e b := by have := (tx_sb (f := M 231) hb.2).2.2 (g_isb j19); rwa [tx_s1 j19] at this
            refine fw_iffd (cc := .eq) (pc := 80) (off := 7) (by decide +kernel) (by decide) ⟨by decide, by decide⟩ (by decide) ?_
            refine gm_sz (gm_p_const (pc := 83) (i := .iconst 3) (v := gm_vi 3) (by decide +kernel) (by decide +kernel)) ?_
            refine gm_sz (gm_p_goto (pc := 84) (off := 58) (by decide +kernel) (by decide)) ?_
            refine gm_sz (gm_p_stor (pc := 142) (i := .istore_n 1) (sr := 0) (j := 1) (by decide +kernel) rfl (show 2 ≤ _ from Nat.le_of_ble_eq_true rfl) rfl) ?_
            refine gm_sz (gm_p_load (pc := 143) (i := .aload_n 0) (sr := 2) (j := 0) (by decide +kernel) rfl rfl rfl) ?_
            refine gm_sz (gm_p_load (pc := 144) (i := .iload_n 1) (sr := 0) (j := 1) (by decide +kernel) rfl rfl rfl) ?_
            refine gm_sz (gm_p_const (pc := 145) (i := .iconst 0) (v := gm_vi 0) (by decide +kernel) (by decide +kernel)) ?_
            refine gm_c_virt (k := 226) (ci := 11) (mj := 279) (ix := 227) (pc := 146) (as := [gm_vi 3, gm_vi 0]) (st := []) (d' := d - 1) (bc' := 0) (bs' := 0) (by decide +kernel) (by decide +kernel) (by decide +kernel) (by decide +kernel) (tR226 hE).1 (tR226 hE).2 (by decide) (by decide +kernel) (show 2 = gm_na 279 by decide +kernel) (fw_c2 fw_si fw_si) (show 3 ≤ gm_ml 279 by decide +kernel) (Nat.le_of_ble_eq_true rfl) (by omega) (Nat.zero_le _) (Nat.zero_le _) ?_
            refine tr_c279 hE ⟨by omega, by omega⟩ (fun W23 => ?_)
            show gm_Wp X LX d _ _ 281 149 _ [] n K R _ Q
            refine gm_sz (gm_p_load (pc := 149) (i := .iload_n 1) (sr := 0) (j := 1) (by decide +kernel) rfl rfl rfl) ?_
            refine fw_iffd (cc := .lt) (pc := 150) (off := 7) (by decide +kernel) (by decide) ⟨by decide, by decide⟩ (by decide) ?_
            refine gm_sz (gm_p_const (pc := 153) (i := .iconst 1) (v := gm_vi 1) (by decide +kernel) (by decide +kernel)) ?_
            refine gm_sz (gm_p_goto (pc := 154) (off := 4) (by decide +kernel) (by decide)) ?_
            rw [g_p1 (Or.inr (Or.inr (Or.inr (Or.inr (Or.inl j19)))))] at h1
            have hs3 := hs3 (g_isb j19)
            rw [tx_s1 j19] at hs1 hs2 hs3
            refine gm_r_int (pc := 158) (by decide +kernel) (Or.inr ⟨(by decide +kernel), Or.inr rfl⟩) (h1 _ _ _ _ rfl ⟨by omega, by omega⟩ ?_ ⟨by omega, by omega, by omega⟩)
            rw [← tx_s1 j19]
            rfl
          · show gm_Wp X LX d _ _ 281 80 _ [gm_vi 0] n K R _ Q
            have j19 : ¬ tx_is (M 231) e b wo_heat := fun hh => j19 ((tr_is hb (by decide)).mpr hh)
            refine fw_iftd (cc := .eq) (pc := 80) (off := 7) (by decide +kernel) (by decide) ⟨by decide, by decide⟩ (by decide) ?_
            refine gm_sz (gm_p_load (pc := 87) (i := .aload_n 0) (sr := 2) (j := 0) (by decide +kernel) rfl rfl rfl) ?_
            refine gm_sz (gm_p_ldcs (pc := 88) (i := .ldc 239) (ix := 239) (id := 70) (by decide +kernel) (Or.inl rfl) (by decide +kernel)) ?_
            refine gm_c_virt (k := 226) (ci := 11) (mj := 250) (ix := 134) (pc := 90) (as := [gm_vo 70]) (st := []) (d' := d - 1) (bc' := 0) (bs' := 0) (by decide +kernel) (by decide +kernel) (by decide +kernel) (by decide +kernel) (tR226 hE).1 (tR226 hE).2 (by decide) (by decide +kernel) (show 1 = gm_na 250 by decide +kernel) (fw_c1 fw_so) (show 2 ≤ gm_ml 250 by decide +kernel) (Nat.le_of_ble_eq_true rfl) (by omega) (Nat.zero_le _) (Nat.zero_le _) ?_
            refine tr_c250 (by omega) hE (by decide) (show tx_o 70 = wo_speed by decide +kernel) ⟨hb.1, (tx_rb (q := tx_l (M 231)) (e := e) _ b rfl hb.2).1, (tx_rb (q := tx_l (M 231)) (e := e) _ b rfl hb.2).2.1⟩ (fun j24 => ?_) (fun j24 => ?_)
            · show gm_Wp X LX d _ _ 281 93 _ [gm_vi 1] n K R _ Q
              have j24 : tx_is (M 231) e b wo_speed := (tr_is hb (by decide)).mp j24
              have q25 : tx_g (M 231) e (tx_r (tx_l (M 231)) e b) = tx_n (M 231) e b := by rw [← tx_s1 j24]; rfl
              have g27 : 0 ≤ tx_n (M 231) e b ∧ tx_n (M 231) e b ≤ e := by have := tx_nb (f := M 231) (b := b) hb.2; have := hb.1; omega
              have g26 : b + 1 ≤ tx_r (tx_l (M 231)) e b := by have := (tx_sb (f := M 231) hb.2).2.2 (g_isb j24); rwa [tx_s1 j24] at this
              refine fw_iffd (cc := .eq) (pc := 93) (off := 7) (by decide +kernel) (by decide) ⟨by decide, by decide⟩ (by decide) ?_
              refine gm_sz (gm_p_const (pc := 96) (i := .iconst 4) (v := gm_vi 4) (by decide +kernel) (by decide +kernel)) ?_
              refine gm_sz (gm_p_goto (pc := 97) (off := 45) (by decide +kernel) (by decide)) ?_
              refine gm_sz (gm_p_stor (pc := 142) (i := .istore_n 1) (sr := 0) (j := 1) (by decide +kernel) rfl (show 2 ≤ _ from Nat.le_of_ble_eq_true rfl) rfl) ?_
              refine gm_sz (gm_p_load (pc := 143) (i := .aload_n 0) (sr := 2) (j := 0) (by decide +kernel) rfl rfl rfl) ?_
              refine gm_sz (gm_p_load (pc := 144) (i := .iload_n 1) (sr := 0) (j := 1) (by decide +kernel) rfl rfl rfl) ?_
              refine gm_sz (gm_p_const (pc := 145) (i := .iconst 0) (v := gm_vi 0) (by decide +kernel) (by decide +kernel)) ?_
              refine gm_c_virt (k := 226) (ci := 11) (mj := 279) (ix := 227) (pc := 146) (as := [gm_vi 4, gm_vi 0]) (st := []) (d' := d - 1) (bc' := 0) (bs' := 0) (by decide +kernel) (by decide +kernel) (by decide +kernel) (by decide +kernel) (tR226 hE).1 (tR226 hE).2 (by decide) (by decide +kernel) (show 2 = gm_na 279 by decide +kernel) (fw_c2 fw_si fw_si) (show 3 ≤ gm_ml 279 by decide +kernel) (Nat.le_of_ble_eq_true rfl) (by omega) (Nat.zero_le _) (Nat.zero_le _) ?_
              refine tr_c279 hE ⟨by omega, by omega⟩ (fun W28 => ?_)
              show gm_Wp X LX d _ _ 281 149 _ [] n K R _ Q
              refine gm_sz (gm_p_load (pc := 149) (i := .iload_n 1) (sr := 0) (j := 1) (by decide +kernel) rfl rfl rfl) ?_
              refine fw_iffd (cc := .lt) (pc := 150) (off := 7) (by decide +kernel) (by decide) ⟨by decide, by decide⟩ (by decide) ?_
              refine gm_sz (gm_p_const (pc := 153) (i := .iconst 1) (v := gm_vi 1) (by decide +kernel) (by decide +kernel)) ?_
              refine gm_sz (gm_p_goto (pc := 154) (off := 4) (by decide +kernel) (by decide)) ?_
              rw [g_p1 (Or.inr (Or.inr (Or.inr (Or.inr (Or.inr (Or.inl j24))))))] at h1
              have hs3 := hs3 (g_isb j24)
              rw [tx_s1 j24] at hs1 hs2 hs3
              refine gm_r_int (pc := 158) (by decide +kernel) (Or.inr ⟨(by decide +kernel), Or.inr rfl⟩) (h1 _ _ _ _ rfl ⟨by omega, by omega⟩ ?_ ⟨by omega, by omega, by omega⟩)
              rw [← tx_s1 j24]
              rfl
            · show gm_Wp X LX d _ _ 281 93 _ [gm_vi 0] n K R _ Q
              have j24 : ¬ tx_is (M 231) e b wo_speed := fun hh => j24 ((tr_is hb (by decide)).mpr hh)
              refine fw_iftd (cc := .eq) (pc := 93) (off := 7) (by decide +kernel) (by decide) ⟨by decide, by decide⟩ (by decide) ?_
              refine gm_sz (gm_p_load (pc := 100) (i := .aload_n 0) (sr := 2) (j := 0) (by decide +kernel) rfl rfl rfl) ?_
              refine gm_sz (gm_p_ldcs (pc := 101) (i := .ldc 205) (ix := 205) (id := 53) (by decide +kernel) (Or.inl rfl) (by decide +kernel)) ?_
              refine gm_c_virt (k := 226) (ci := 11) (mj := 250) (ix := 134) (pc := 103) (as := [gm_vo 53]) (st := []) (d' := d - 1) (bc' := 0) (bs' := 0) (by decide +kernel) (by decide +kernel) (by decide +kernel) (by decide +kernel) (tR226 hE).1 (tR226 hE).2 (by decide) (by decide +kernel) (show 1 = gm_na 250 by decide +kernel) (fw_c1 fw_so) (show 2 ≤ gm_ml 250 by decide +kernel) (Nat.le_of_ble_eq_true rfl) (by omega) (Nat.zero_le _) (Nat.zero_le _) ?_
              refine tr_c250 (by omega) hE (by decide) (show tx_o 53 = wo_person by decide +kernel) ⟨hb.1, (tx_rb (q := tx_l (M 231)) (e := e) _ b rfl hb.2).1, (tx_rb (q := tx_l (M 231)) (e := e) _ b rfl hb.2).2.1⟩ (fun j29 => ?_) (fun j29 => ?_)
              · show gm_Wp X LX d _ _ 281 106 _ [gm_vi 1] n K R _ Q
                have j29 : tx_is (M 231) e b wo_person := (tr_is hb (by decide)).mp j29
                have q30 : tx_g (M 231) e (tx_r (tx_l (M 231)) e b) = tx_n (M 231) e b := by rw [← tx_s1 j29]; rfl
                have g32 : 0 ≤ tx_n (M 231) e b ∧ tx_n (M 231) e b ≤ e := by have := tx_nb (f := M 231) (b := b) hb.2; have := hb.1; omega
                have g31 : b + 1 ≤ tx_r (tx_l (M 231)) e b := by have := (tx_sb (f := M 231) hb.2).2.2 (g_isb j29); rwa [tx_s1 j29] at this
                refine fw_iffd (cc := .eq) (pc := 106) (off := 7) (by decide +kernel) (by decide) ⟨by decide, by decide⟩ (by decide) ?_
                refine gm_sz (gm_p_const (pc := 109) (i := .iconst 5) (v := gm_vi 5) (by decide +kernel) (by decide +kernel)) ?_
                refine gm_sz (gm_p_goto (pc := 110) (off := 32) (by decide +kernel) (by decide)) ?_
                refine gm_sz (gm_p_stor (pc := 142) (i := .istore_n 1) (sr := 0) (j := 1) (by decide +kernel) rfl (show 2 ≤ _ from Nat.le_of_ble_eq_true rfl) rfl) ?_
                refine gm_sz (gm_p_load (pc := 143) (i := .aload_n 0) (sr := 2) (j := 0) (by decide +kernel) rfl rfl rfl) ?_
                refine gm_sz (gm_p_load (pc := 144) (i := .iload_n 1) (sr := 0) (j := 1) (by decide +kernel) rfl rfl rfl) ?_
                refine gm_sz (gm_p_const (pc := 145) (i := .iconst 0) (v := gm_vi 0) (by decide +kernel) (by decide +kernel)) ?_
                refine gm_c_virt (k := 226) (ci := 11) (mj := 279) (ix := 227) (pc := 146) (as := [gm_vi 5, gm_vi 0]) (st := []) (d' := d - 1) (bc' := 0) (bs' := 0) (by decide +kernel) (by decide +kernel) (by decide +kernel) (by decide +kernel) (tR226 hE).1 (tR226 hE).2 (by decide) (by decide +kernel) (show 2 = gm_na 279 by decide +kernel) (fw_c2 fw_si fw_si) (show 3 ≤ gm_ml 279 by decide +kernel) (Nat.le_of_ble_eq_true rfl) (by omega) (Nat.zero_le _) (Nat.zero_le _) ?_
                refine tr_c279 hE ⟨by omega, by omega⟩ (fun W33 => ?_)
                show gm_Wp X LX d _ _ 281 149 _ [] n K R _ Q
                refine gm_sz (gm_p_load (pc := 149) (i := .iload_n 1) (sr := 0) (j := 1) (by decide +kernel) rfl rfl rfl) ?_
                refine fw_iffd (cc := .lt) (pc := 150) (off := 7) (by decide +kernel) (by decide) ⟨by decide, by decide⟩ (by decide) ?_
                refine gm_sz (gm_p_const (pc := 153) (i := .iconst 1) (v := gm_vi 1) (by decide +kernel) (by decide +kernel)) ?_
                refine gm_sz (gm_p_goto (pc := 154) (off := 4) (by decide +kernel) (by decide)) ?_
                rw [g_p1 (Or.inr (Or.inr (Or.inr (Or.inr (Or.inr (Or.inr (Or.inl j29)))))))] at h1
                have hs3 := hs3 (g_isb j29)
                rw [tx_s1 j29] at hs1 hs2 hs3
                refine gm_r_int (pc := 158) (by decide +kernel) (Or.inr ⟨(by decide +kernel), Or.inr rfl⟩) (h1 _ _ _ _ rfl ⟨by omega, by omega⟩ ?_ ⟨by omega, by omega, by omega⟩)
                rw [← tx_s1 j29]
                rfl
              · show gm_Wp X LX d _ _ 281 106 _ [gm_vi 0] n K R _ Q
                have j29 : ¬ tx_is (M 231) e b wo_person := fun hh => j29 ((tr_is hb (by decide)).mpr hh)
                refine fw_iftd (cc := .eq) (pc := 106) (off := 7) (by decide +kernel) (by decide) ⟨by decide, by decide⟩ (by decide) ?_
                refine gm_sz (gm_p_load (pc := 113) (i := .aload_n 0) (sr := 2) (j := 0) (by decide +kernel) rfl rfl rfl) ?_
                refine gm_sz (gm_p_ldcs (pc := 114) (i := .ldc 241) (ix := 241) (id := 71) (by decide +kernel) (Or.inl rfl) (by decide +kernel)) ?_
                refine gm_c_virt (k := 226) (ci := 11) (mj := 250) (ix := 134) (pc := 116) (as := [gm_vo 71]) (st := []) (d' := d - 1) (bc' := 0) (bs' := 0) (by decide +kernel) (by decide +kernel) (by decide +kernel) (by decide +kernel) (tR226 hE).1 (tR226 hE).2 (by decide) (by decide +kernel) (show 1 = gm_na 250 by decide +kernel) (fw_c1 fw_so) (show 2 ≤ gm_ml 250 by decide +kernel) (Nat.le_of_ble_eq_true rfl) (by omega) (Nat.zero_le _) (Nat.zero_le _) ?_
                refine tr_c250 (by omega) hE (by decide) (show tx_o 71 = wo_age by decide +kernel) ⟨hb.1, (tx_rb (q := tx_l (M 231)) (e := e) _ b rfl hb.2).1, (tx_rb (q := tx_l (M 231)) (e := e) _ b rfl hb.2).2.1⟩ (fun j34 => ?_) (fun j34 => ?_)
                · show gm_Wp X LX d _ _ 281 119 _ [gm_vi 1] n K R _ Q
                  have j34 : tx_is (M 231) e b wo_age := (tr_is hb (by decide)).mp j34
                  have q35 : tx_g (M 231) e (tx_r (tx_l (M 231)) e b) = tx_n (M 231) e b := by rw [← tx_s1 j34]; rfl
                  have g37 : 0 ≤ tx_n (M 231) e b ∧ tx_n (M 231) e b ≤ e := by have := tx_nb (f := M 231) (b := b) hb.2; have := hb.1; omega
                  have g36 : b + 1 ≤ tx_r (tx_l (M 231)) e b := by have := (tx_sb (f := M 231) hb.2).2.2 (g_isb j34); rwa [tx_s1 j34] at this
                  refine fw_iffd (cc := .eq) (pc := 119) (off := 8) (by decide +kernel) (by decide) ⟨by decide, by decide⟩ (by decide) ?_
                  refine gm_sz (gm_p_const (pc := 122) (i := .bipush 6) (v := gm_vi 6) (by decide +kernel) (by decide +kernel)) ?_
                  refine gm_sz (gm_p_goto (pc := 124) (off := 18) (by decide +kernel) (by decide)) ?_
                  refine gm_sz (gm_p_stor (pc := 142) (i := .istore_n 1) (sr := 0) (j := 1) (by decide +kernel) rfl (show 2 ≤ _ from Nat.le_of_ble_eq_true rfl) rfl) ?_
                  refine gm_sz (gm_p_load (pc := 143) (i := .aload_n 0) (sr := 2) (j := 0) (by decide +kernel) rfl rfl rfl) ?_
                  refine gm_sz (gm_p_load (pc := 144) (i := .iload_n 1) (sr := 0) (j := 1) (by decide +kernel) rfl rfl rfl) ?_
                  refine gm_sz (gm_p_const (pc := 145) (i := .iconst 0) (v := gm_vi 0) (by decide +kernel) (by decide +kernel)) ?_
                  refine gm_c_virt (k := 226) (ci := 11) (mj := 279) (ix := 227) (pc := 146) (as := [gm_vi 6, gm_vi 0]) (st := []) (d' := d - 1) (bc' := 0) (bs' := 0) (by decide +kernel) (by decide +kernel) (by decide +kernel) (by decide +kernel) (tR226 hE).1 (tR226 hE).2 (by decide) (by decide +kernel) (show 2 = gm_na 279 by decide +kernel) (fw_c2 fw_si fw_si) (show 3 ≤ gm_ml 279 by decide +kernel) (Nat.le_of_ble_eq_true rfl) (by omega) (Nat.zero_le _) (Nat.zero_le _) ?_
                  refine tr_c279 hE ⟨by omega, by omega⟩ (fun W38 => ?_)
                  show gm_Wp X LX d _ _ 281 149 _ [] n K R _ Q
                  refine gm_sz (gm_p_load (pc := 149) (i := .iload_n 1) (sr := 0) (j := 1) (by decide +kernel) rfl rfl rfl) ?_
                  refine fw_iffd (cc := .lt) (pc := 150) (off := 7) (by decide +kernel) (by decide) ⟨by decide, by decide⟩ (by decide) ?_
                  refine gm_sz (gm_p_const (pc := 153) (i := .iconst 1) (v := gm_vi 1) (by decide +kernel) (by decide +kernel)) ?_
                  refine gm_sz (gm_p_goto (pc := 154) (off := 4) (by decide +kernel) (by decide)) ?_
                  rw [g_p1 (Or.inr (Or.inr (Or.inr (Or.inr (Or.inr (Or.inr (Or.inr (Or.inl j34))))))))] at h1
                  have hs3 := hs3 (g_isb j34)
                  rw [tx_s1 j34] at hs1 hs2 hs3
                  refine gm_r_int (pc := 158) (by decide +kernel) (Or.inr ⟨(by decide +kernel), Or.inr rfl⟩) (h1 _ _ _ _ rfl ⟨by omega, by omega⟩ ?_ ⟨by omega, by omega, by omega⟩)
                  rw [← tx_s1 j34]
                  rfl
                · show gm_Wp X LX d _ _ 281 119 _ [gm_vi 0] n K R _ Q
                  have j34 : ¬ tx_is (M 231) e b wo_age := fun hh => j34 ((tr_is hb (by decide)).mpr hh)
                  refine fw_iftd (cc := .eq) (pc := 119) (off := 8) (by decide +kernel) (by decide) ⟨by decide, by decide⟩ (by decide) ?_
                  refine gm_sz (gm_p_load (pc := 127) (i := .aload_n 0) (sr := 2) (j := 0) (by decide +kernel) rfl rfl rfl) ?_
                  refine gm_sz (gm_p_ldcs (pc := 128) (i := .ldc 243) (ix := 243) (id := 72) (by decide +kernel) (Or.inl rfl) (by decide +kernel)) ?_
                  refine gm_c_virt (k := 226) (ci := 11) (mj := 250) (ix := 134) (pc := 130) (as := [gm_vo 72]) (st := []) (d' := d - 1) (bc' := 0) (bs' := 0) (by decide +kernel) (by decide +kernel) (by decide +kernel) (by decide +kernel) (tR226 hE).1 (tR226 hE).2 (by decide) (by decide +kernel) (show 1 = gm_na 250 by decide +kernel) (fw_c1 fw_so) (show 2 ≤ gm_ml 250 by decide +kernel) (Nat.le_of_ble_eq_true rfl) (by omega) (Nat.zero_le _) (Nat.zero_le _) ?_
                  refine tr_c250 (by omega) hE (by decide) (show tx_o 72 = wo_deep by decide +kernel) ⟨hb.1, (tx_rb (q := tx_l (M 231)) (e := e) _ b rfl hb.2).1, (tx_rb (q := tx_l (M 231)) (e := e) _ b rfl hb.2).2.1⟩ (fun j39 => ?_) (fun j39 => ?_)
                  · show gm_Wp X LX d _ _ 281 133 _ [gm_vi 1] n K R _ Q
                    have j39 : tx_is (M 231) e b wo_deep := (tr_is hb (by decide)).mp j39
                    have q40 : tx_g (M 231) e (tx_r (tx_l (M 231)) e b) = tx_n (M 231) e b := by rw [← tx_s1 j39]; rfl
                    have g42 : 0 ≤ tx_n (M 231) e b ∧ tx_n (M 231) e b ≤ e := by have := tx_nb (f := M 231) (b := b) hb.2; have := hb.1; omega
                    have g41 : b + 1 ≤ tx_r (tx_l (M 231)) e b := by have := (tx_sb (f := M 231) hb.2).2.2 (g_isb j39); rwa [tx_s1 j39] at this
                    refine fw_iffd (cc := .eq) (pc := 133) (off := 8) (by decide +kernel) (by decide) ⟨by decide, by decide⟩ (by decide) ?_
                    refine gm_sz (gm_p_const (pc := 136) (i := .bipush 7) (v := gm_vi 7) (by decide +kernel) (by decide +kernel)) ?_
                    refine gm_sz (gm_p_goto (pc := 138) (off := 4) (by decide +kernel) (by decide)) ?_
                    refine gm_sz (gm_p_stor (pc := 142) (i := .istore_n 1) (sr := 0) (j := 1) (by decide +kernel) rfl (show 2 ≤ _ from Nat.le_of_ble_eq_true rfl) rfl) ?_
                    refine gm_sz (gm_p_load (pc := 143) (i := .aload_n 0) (sr := 2) (j := 0) (by decide +kernel) rfl rfl rfl) ?_
                    refine gm_sz (gm_p_load (pc := 144) (i := .iload_n 1) (sr := 0) (j := 1) (by decide +kernel) rfl rfl rfl) ?_
                    refine gm_sz (gm_p_const (pc := 145) (i := .iconst 0) (v := gm_vi 0) (by decide +kernel) (by decide +kernel)) ?_
                    refine gm_c_virt (k := 226) (ci := 11) (mj := 279) (ix := 227) (pc := 146) (as := [gm_vi 7, gm_vi 0]) (st := []) (d' := d - 1) (bc' := 0) (bs' := 0) (by decide +kernel) (by decide +kernel) (by decide +kernel) (by decide +kernel) (tR226 hE).1 (tR226 hE).2 (by decide) (by decide +kernel) (show 2 = gm_na 279 by decide +kernel) (fw_c2 fw_si fw_si) (show 3 ≤ gm_ml 279 by decide +kernel) (Nat.le_of_ble_eq_true rfl) (by omega) (Nat.zero_le _) (Nat.zero_le _) ?_
                    refine tr_c279 hE ⟨by omega, by omega⟩ (fun W43 => ?_)
                    show gm_Wp X LX d _ _ 281 149 _ [] n K R _ Q
                    refine gm_sz (gm_p_load (pc := 149) (i := .iload_n 1) (sr := 0) (j := 1) (by decide +kernel) rfl rfl rfl) ?_
                    refine fw_iffd (cc := .lt) (pc := 150) (off := 7) (by decide +kernel) (by decide) ⟨by decide, by decide⟩ (by decide) ?_
                    refine gm_sz (gm_p_const (pc := 153) (i := .iconst 1) (v := gm_vi 1) (by decide +kernel) (by decide +kernel)) ?_
                    refine gm_sz (gm_p_goto (pc := 154) (off := 4) (by decide +kernel) (by decide)) ?_
                    rw [g_p1 (Or.inr (Or.inr (Or.inr (Or.inr (Or.inr (Or.inr (Or.inr (Or.inr (j39)))))))))] at h1
                    have hs3 := hs3 (g_isb j39)
                    rw [tx_s1 j39] at hs1 hs2 hs3
                    refine gm_r_int (pc := 158) (by decide +kernel) (Or.inr ⟨(by decide +kernel), Or.inr rfl⟩) (h1 _ _ _ _ rfl ⟨by omega, by omega⟩ ?_ ⟨by omega, by omega, by omega⟩)
                    rw [← tx_s1 j39]
                    rfl
                  · show gm_Wp X LX d _ _ 281 133 _ [gm_vi 0] n K R _ Q
                    have j39 : ¬ tx_is (M 231) e b wo_deep := fun hh => j39 ((tr_is hb (by decide)).mpr hh)
                    refine fw_iftd (cc := .eq) (pc := 133) (off := 8) (by decide +kernel) (by decide) ⟨by decide, by decide⟩ (by decide) ?_
                    refine gm_sz (gm_p_const (pc := 141) (i := .iconst (-1)) (v := gm_vi (-1)) (by decide +kernel) (by decide +kernel)) ?_
                    refine gm_sz (gm_p_stor (pc := 142) (i := .istore_n 1) (sr := 0) (j := 1) (by decide +kernel) rfl (show 2 ≤ _ from Nat.le_of_ble_eq_true rfl) rfl) ?_
                    refine gm_sz (gm_p_load (pc := 143) (i := .aload_n 0) (sr := 2) (j := 0) (by decide +kernel) rfl rfl rfl) ?_
                    refine gm_sz (gm_p_load (pc := 144) (i := .iload_n 1) (sr := 0) (j := 1) (by decide +kernel) rfl rfl rfl) ?_
                    refine gm_sz (gm_p_const (pc := 145) (i := .iconst 0) (v := gm_vi 0) (by decide +kernel) (by decide +kernel)) ?_
                    refine gm_c_virt (k := 226) (ci := 11) (mj := 279) (ix := 227) (pc := 146) (as := [gm_vi (-1), gm_vi 0]) (st := []) (d' := d - 1) (bc' := 0) (bs' := 0) (by decide +kernel) (by decide +kernel) (by decide +kernel) (by decide +kernel) (tR226 hE).1 (tR226 hE).2 (by decide) (by decide +kernel) (show 2 = gm_na 279 by decide +kernel) (fw_c2 fw_si fw_si) (show 3 ≤ gm_ml 279 by decide +kernel) (Nat.le_of_ble_eq_true rfl) (by omega) (Nat.zero_le _) (Nat.zero_le _) ?_
                    refine tr_c279 hE ⟨by omega, by omega⟩ (fun W44 => ?_)
                    show gm_Wp X LX d _ _ 281 149 _ [] n K R _ Q
                    refine gm_sz (gm_p_load (pc := 149) (i := .iload_n 1) (sr := 0) (j := 1) (by decide +kernel) rfl rfl rfl) ?_
                    refine fw_iftd (cc := .lt) (pc := 150) (off := 7) (by decide +kernel) (by decide) ⟨by decide, by decide⟩ (by decide) ?_
                    refine gm_sz (gm_p_const (pc := 157) (i := .iconst 0) (v := gm_vi 0) (by decide +kernel) (by decide +kernel)) ?_
                    have np : ¬ g_pt (M 231) e b := fun hh => by
                      rcases hh with hh | hh
                      · have := tx_kne (f := M 231) (e := e) (b := b) (by omega)
                        by_cases h8 : 97 ≤ M 231 b ∧ M 231 b ≤ 122
                        · have := (tx_k1 (m := 0) this h8).1
                          omega
                        · have := tx_rf (q := tx_l (M 231)) (e := e) (p := b) (fun h h2 => h8 (of_decide_eq_true h2))
                          omega
                      · rcases hh with hh | hh | hh | hh | hh | hh | hh | hh <;> contradiction
                    rw [g_p0 np] at h0
                    exact gm_r_int (pc := 158) (by decide +kernel) (Or.inr ⟨(by decide +kernel), Or.inl rfl⟩) (h0 _ _ _ _ (fun h => by cases h))
  · have j3 : (tx_r (tx_l (M 231)) e b) = b := Classical.not_not.mp j3
    have hgb : tx_g (M 231) e b = b := by rw [← hg]; exact tx_gi hp.2
    rw [show tx_r (tx_l (M 231)) e b = b by omega]
    refine gm_sz (gm_p_load (pc := 15) (i := .aload_n 0) (sr := 2) (j := 0) (by decide +kernel) rfl rfl rfl) ?_
    refine gm_sz (gm_p_const (pc := 16) (i := .iconst 0) (v := gm_vi 0) (by decide +kernel) (by decide +kernel)) ?_
    refine gm_sz (gm_p_const (pc := 17) (i := .sipush 999) (v := gm_vi 999) (by decide +kernel) (by decide +kernel)) ?_
    refine gm_sz (gm_p_const (pc := 20) (i := .iconst 3) (v := gm_vi 3) (by decide +kernel) (by decide +kernel)) ?_
    refine gm_c_virt (k := 226) (ci := 11) (mj := 256) (ix := 138) (pc := 21) (as := [gm_vi 0, gm_vi 999, gm_vi 3]) (st := []) (d' := d - 1) (bc' := 0) (bs' := 0) (by decide +kernel) (by decide +kernel) (by decide +kernel) (by decide +kernel) (tR226 hE).1 (tR226 hE).2 (by decide) (by decide +kernel) (show 3 = gm_na 256 by decide +kernel) (fw_c3 fw_si fw_si fw_si) (show 4 ≤ gm_ml 256 by decide +kernel) (Nat.le_of_ble_eq_true rfl) (by omega) (Nat.zero_le _) (Nat.zero_le _) ?_
    refine tr_c256 (by omega) hE (by decide) (by decide) ⟨by decide, by decide⟩ hb hgb (fun j45 => ?_) (fun j45 p46 => ?_)
    · show gm_Wp X LX d _ _ 281 24 _ [gm_vi (tx_v (M 231) e 3 b)] n K R _ Q
      have j45 : tx_k (M 231) e b = 258 ∧ 0 ≤ tx_v (M 231) e 3 b ∧ tx_v (M 231) e 3 b ≤ 999 := j45
      have g47 : 0 ≤ tx_s (M 231) e b ∧ tx_s (M 231) e b ≤ e := by have := tx_sb (f := M 231) hb.2; have := hb.1; omega
      have g48 : 0 ≤ tx_n (M 231) e b ∧ tx_n (M 231) e b ≤ e := by have := tx_gb (f := M 231) g47.2; have := g47.1; unfold tx_n; omega
      have j45s := (tx_sb (f := M 231) hb.2).2.2 (tx_kne (f := M 231) (by omega))
      have j45p := (tx_gb (f := M 231) hb.2).1
      rw [hgb] at j45p
      have j45v := tx_vb (f := M 231) (e := e) (m := 3) (b := b) (by decide)
      refine gm_sz (gm_p_stor (pc := 24) (i := .istore_n 1) (sr := 0) (j := 1) (by decide +kernel) rfl (show 2 ≤ _ from Nat.le_of_ble_eq_true rfl) rfl) ?_
      refine gm_sz (gm_p_load (pc := 25) (i := .aload_n 0) (sr := 2) (j := 0) (by decide +kernel) rfl rfl rfl) ?_
      refine gm_sz (gm_p_const (pc := 26) (i := .bipush 10) (v := gm_vi 10) (by decide +kernel) (by decide +kernel)) ?_
      refine gm_sz (gm_p_load (pc := 28) (i := .iload_n 1) (sr := 0) (j := 1) (by decide +kernel) rfl rfl rfl) ?_
      refine gm_c_virt (k := 226) (ci := 11) (mj := 279) (ix := 227) (pc := 29) (as := [gm_vi 10, gm_vi (tx_v (M 231) e 3 b)]) (st := []) (d' := d - 1) (bc' := 0) (bs' := 0) (by decide +kernel) (by decide +kernel) (by decide +kernel) (by decide +kernel) (tR226 hE).1 (tR226 hE).2 (by decide) (by decide +kernel) (show 2 = gm_na 279 by decide +kernel) (fw_c2 fw_si fw_si) (show 3 ≤ gm_ml 279 by decide +kernel) (Nat.le_of_ble_eq_true rfl) (by omega) (Nat.zero_le _) (Nat.zero_le _) ?_
      refine tr_c279 hE ⟨by omega, by omega⟩ (fun W49 => ?_)
      show gm_Wp X LX d _ _ 281 32 _ [] n K R _ Q
      refine gm_sz (gm_p_goto (pc := 32) (off := 117) (by decide +kernel) (by decide)) ?_
      refine gm_sz (gm_p_load (pc := 149) (i := .iload_n 1) (sr := 0) (j := 1) (by decide +kernel) rfl rfl rfl) ?_
      refine fw_iff (cc := .lt) (pc := 150) (off := 7) (by decide +kernel) (by decide) ⟨by omega, by omega⟩ (show ¬ (tx_v (M 231) e 3 b) < 0 by omega) ?_
      refine gm_sz (gm_p_const (pc := 153) (i := .iconst 1) (v := gm_vi 1) (by decide +kernel) (by decide +kernel)) ?_
      refine gm_sz (gm_p_goto (pc := 154) (off := 4) (by decide +kernel) (by decide)) ?_
      rw [g_p1 (Or.inl ⟨by omega, by omega⟩)] at h1
      have hs3 := hs3 (tx_kne (f := M 231) (by omega))
      exact gm_r_int (pc := 158) (by decide +kernel) (Or.inr ⟨(by decide +kernel), Or.inr rfl⟩) (h1 _ _ _ _ rfl ⟨by omega, by omega⟩ rfl ⟨by omega, by omega, by omega⟩)
    · show gm_Wp X LX d _ _ 281 24 _ [gm_vi (-1)] n K R _ Q
      have j45 : ¬ (tx_k (M 231) e b = 258 ∧ 0 ≤ tx_v (M 231) e 3 b ∧ tx_v (M 231) e 3 b ≤ 999) := j45
      refine gm_sz (gm_p_stor (pc := 24) (i := .istore_n 1) (sr := 0) (j := 1) (by decide +kernel) rfl (show 2 ≤ _ from Nat.le_of_ble_eq_true rfl) rfl) ?_
      refine gm_sz (gm_p_load (pc := 25) (i := .aload_n 0) (sr := 2) (j := 0) (by decide +kernel) rfl rfl rfl) ?_
      refine gm_sz (gm_p_const (pc := 26) (i := .bipush 10) (v := gm_vi 10) (by decide +kernel) (by decide +kernel)) ?_
      refine gm_sz (gm_p_load (pc := 28) (i := .iload_n 1) (sr := 0) (j := 1) (by decide +kernel) rfl rfl rfl) ?_
      refine gm_c_virt (k := 226) (ci := 11) (mj := 279) (ix := 227) (pc := 29) (as := [gm_vi 10, gm_vi (-1)]) (st := []) (d' := d - 1) (bc' := 0) (bs' := 0) (by decide +kernel) (by decide +kernel) (by decide +kernel) (by decide +kernel) (tR226 hE).1 (tR226 hE).2 (by decide) (by decide +kernel) (show 2 = gm_na 279 by decide +kernel) (fw_c2 fw_si fw_si) (show 3 ≤ gm_ml 279 by decide +kernel) (Nat.le_of_ble_eq_true rfl) (by omega) (Nat.zero_le _) (Nat.zero_le _) ?_
      refine tr_c279 hE ⟨by omega, by omega⟩ (fun W50 => ?_)
      show gm_Wp X LX d _ _ 281 32 _ [] n K R _ Q
      refine gm_sz (gm_p_goto (pc := 32) (off := 117) (by decide +kernel) (by decide)) ?_
      refine gm_sz (gm_p_load (pc := 149) (i := .iload_n 1) (sr := 0) (j := 1) (by decide +kernel) rfl rfl rfl) ?_
      refine fw_iftd (cc := .lt) (pc := 150) (off := 7) (by decide +kernel) (by decide) ⟨by decide, by decide⟩ (by decide) ?_
      refine gm_sz (gm_p_const (pc := 157) (i := .iconst 0) (v := gm_vi 0) (by decide +kernel) (by decide +kernel)) ?_
      have np : ¬ g_pt (M 231) e b := fun hh => by
        rcases hh with hh | hh
        · have := tx_vb (f := M 231) (e := e) (m := 3) (b := b) (by decide)
          have := tx_v9 (f := M 231) (e := e) (b := b)
          omega
        · have h9 := g_fk hh
          have h8 := tx_kne (f := M 231) (e := e) (b := b) (by omega)
          by_cases h7 : 97 ≤ M 231 b ∧ M 231 b ≤ 122
          · have := tx_rs (q := tx_l (M 231)) (e := e) h8 (decide_eq_true h7)
            omega
          · by_cases h6 : 48 ≤ M 231 b ∧ M 231 b ≤ 57
            · have := (tx_k2 (m := 0) h8 h6).1
              omega
            · have := (tx_k3 (f := M 231) (m := 0) h8 h7 h6).1
              omega
      rw [g_p0 np] at h0
      exact gm_r_int (pc := 158) (by decide +kernel) (Or.inr ⟨(by decide +kernel), Or.inl rfl⟩) (h0 _ _ _ _ (fun h => by cases h))
/-- a sum behind its first part: c is the token that stands there -/
noncomputable def g_sm (f : Int → Int) (e : Int) (t : Nat) (c : Int) : Bool × Int := tif (tx_k f e c = 43) (g_sum f e t (tx_n f e c)) (true, c)
noncomputable def g_am (f : Int → Int) (e : Int) (A : Int → Bool × Int) (t : Nat) (c : Int) : Bool × Int := tif (tx_is f e c wo_and) (g_all f e A t (tx_n f e c)) (true, c)
noncomputable def g_cm (f : Int → Int) (e : Int) (A : Int → Bool × Int) (t : Nat) (c : Int) : Bool × Int := tif (tx_is f e c wo_or) (g_cnd f e A t (tx_n f e c)) (true, c)
section GM
variable {f : Int → Int} {A : Int → Bool × Int} {t : Nat} {c : Int}
theorem g_sme (h : g_pt f e b) : g_sum f e (t + 1) b = g_sm f e t (tx_n f e b) := tif_t h
theorem g_sm0 (h : ¬ tx_k f e c = 43) : g_sm f e t c = (true, c) := tif_f h
theorem g_sm1 (h : tx_k f e c = 43) (h2 : ¬ g_pt f e (tx_n f e c)) : g_sm f e (t + 1) c = (false, tx_n f e c) := (tif_t h).trans (tif_f h2)
theorem g_sm2 (h : tx_k f e c = 43) (h2 : g_pt f e (tx_n f e c)) : g_sm f e (t + 1) c = g_sm f e t (tx_n f e (tx_n f e c)) := (tif_t h).trans (tif_t h2)
theorem g_ame (h : (A b).1 = true) : g_all f e A (t + 1) b = g_am f e A t (A b).2 := tif_t h
theorem g_am0 (h : ¬ tx_is f e c wo_and) : g_am f e A t c = (true, c) := tif_f h
theorem g_am1 (h : tx_is f e c wo_and) (h2 : ¬ (A (tx_n f e c)).1 = true) : g_am f e A (t + 1) c = A (tx_n f e c) := (tif_t h).trans (tif_f h2)
theorem g_am2 (h : tx_is f e c wo_and) (h2 : (A (tx_n f e c)).1 = true) : g_am f e A (t + 1) c = g_am f e A t (A (tx_n f e c)).2 := (tif_t h).trans (tif_t h2)
theorem g_cme (h : (g_all f e A 400 b).1 = true) : g_cnd f e A (t + 1) b = g_cm f e A t (g_all f e A 400 b).2 := tif_t h
theorem g_cm0 (h : ¬ tx_is f e c wo_or) : g_cm f e A t c = (true, c) := tif_f h
theorem g_cm1 (h : tx_is f e c wo_or) (h2 : ¬ (g_all f e A 400 (tx_n f e c)).1 = true) : g_cm f e A (t + 1) c = g_all f e A 400 (tx_n f e c) := (tif_t h).trans (tif_f h2)
theorem g_cm2 (h : tx_is f e c wo_or) (h2 : (g_all f e A 400 (tx_n f e c)).1 = true) : g_cm f e A (t + 1) c = g_cm f e A t (g_all f e A 400 (tx_n f e c)).2 := (tif_t h).trans (tif_t h2)
end GM
theorem tr_s280 (hd : 9 ≤ d) (hE : tR n K R M e) : ∀ (t : Nat) (pt c bg st : Int) (W : Int → Int) (Q : gm_Q), e - c < 2 * (t : Int) → 0 ≤ pt ∧ pt ≤ e → tx_g (M 231) e pt = c → 0 ≤ st ∧ st + 1 ≤ pt → (∀ p2 bg2 st2 W2, (g_sm (M 231) e t c).1 = true → 0 ≤ p2 ∧ p2 ≤ e → tx_g (M 231) e p2 = (g_sm (M 231) e t c).2 → 0 ≤ st2 ∧ st2 - st ≤ p2 - pt ∧ pt ≤ p2 → Q (.inl (some (gm_vi 1))) n K R (rm M p2 bg2 dp st2 W2)) → (∀ p2 dp2 st2 W2, ¬ (g_sm (M 231) e t c).1 = true → Q (.inl (some (gm_vi 0))) n K R (rm M p2 (g_sm (M 231) e t c).2 dp2 st2 W2)) → gm_Wp X LX d bc bs 280 9 [some (gm_vr 226)] [] n K R (rm M pt bg dp st W) Q := by
  obtain ⟨-, he0, he4⟩ := tRe hE
  intro t
  induction t with
  | zero =>
    intro pt c bg st W Q ht hp hg hst h1 h0
    obtain ⟨hg1, hg2, -⟩ := tx_gb (f := M 231) hp.2
    rw [hg] at hg1 hg2
    exact absurd ht (by omega)
  | succ t ih =>
    intro pt c bg st W Q ht hp hg hst h1 h0
    obtain ⟨hg1, hg2, -⟩ := tx_gb (f := M 231) hp.2
    rw [hg] at hg1 hg2
    have hb : 0 ≤ c ∧ c ≤ e := ⟨by omega, hg2⟩
    obtain ⟨hn1, hn2, hn3⟩ := tx_nb (f := M 231) hb.2
    refine gm_sz (gm_p_load (pc := 9) (i := .aload_n 0) (sr := 2) (j := 0) (by decide +kernel) rfl rfl rfl) ?_
    refine gm_sz (gm_p_const (pc := 10) (i := .bipush 43) (v := gm_vi 43) (by decide +kernel) (by decide +kernel)) ?_
    refine gm_c_virt (k := 226) (ci := 11) (mj := 278) (ix := 248) (pc := 12) (as := [gm_vi 43]) (st := []) (d' := d - 1) (bc' := 0) (bs' := 0) (by decide +kernel) (by decide +kernel) (by decide +kernel) (by decide +kernel) (tR226 hE).1 (tR226 hE).2 (by decide) (by decide +kernel) (show 1 = gm_na 278 by decide +kernel) (fw_c1 fw_si) (show 2 ≤ gm_ml 278 by decide +kernel) (Nat.le_of_ble_eq_true rfl) (by omega) (Nat.zero_le _) (Nat.zero_le _) ?_
    refine tr_c278 (by omega) hE (by decide) hp hg (fun j1 => ?_) (fun j1 => ?_)
    · show gm_Wp X LX d _ _ 280 15 _ [gm_vi 1] n K R _ Q
      have j1 : tx_k (M 231) e c = 43 := j1
      have g2 : 0 ≤ tx_s (M 231) e c ∧ tx_s (M 231) e c ≤ e := by have := tx_sb (f := M 231) hb.2; have := hb.1; omega
      have g3 : 0 ≤ tx_n (M 231) e c ∧ tx_n (M 231) e c ≤ e := by have := tx_gb (f := M 231) g2.2; have := g2.1; unfold tx_n; omega
      have j1s := (tx_sb (f := M 231) hb.2).2.2 (tx_kne (f := M 231) (by omega))
      have j1p := (tx_gb (f := M 231) hp.2).1
      rw [hg] at j1p
      refine fw_iffd (cc := .eq) (pc := 15) (off := 22) (by decide +kernel) (by decide) ⟨by decide, by decide⟩ (by decide) ?_
      refine gm_sz (gm_p_load (pc := 18) (i := .aload_n 0) (sr := 2) (j := 0) (by decide +kernel) rfl rfl rfl) ?_
      refine gm_c_virt (k := 226) (ci := 11) (mj := 281) (ix := 245) (pc := 19) (as := []) (st := []) (d' := d - 1) (bc' := 0) (bs' := 0) (by decide +kernel) (by decide +kernel) (by decide +kernel) (by decide +kernel) (tR226 hE).1 (tR226 hE).2 (by decide) (by decide +kernel) (show 0 = gm_na 281 by decide +kernel) fw_c0 (show 1 ≤ gm_ml 281 by decide +kernel) (Nat.le_of_ble_eq_true rfl) (by omega) (Nat.zero_le _) (Nat.zero_le _) ?_
      refine tr_c281 hE _ _ _ _ _ _ _ _ _ (by omega) g2 rfl ⟨by omega, by omega⟩ (fun p5 x6 s7 W8 j9 q10b q10 t12 => ?_) (fun p5 x14 s7 W8 j9 => ?_)
      · show gm_Wp X LX d _ _ 280 22 _ [gm_vi 1] n K R _ Q
        have j9 : (g_par (M 231) e (tx_n (M 231) e c)).1 = true := j9
        have q10 : tx_g (M 231) e p5 = (g_par (M 231) e (tx_n (M 231) e c)).2 := q10
        have g11 : 0 ≤ (g_par (M 231) e (tx_n (M 231) e c)).2 ∧ (g_par (M 231) e (tx_n (M 231) e c)).2 ≤ e := by have := g_par_in (f := M 231) (tx_n (M 231) e c) g3.1 g3.2; have := g3.1; omega
        have i13 := (g_par_in (f := M 231) (tx_n (M 231) e c) g3.1 g3.2)
        have i13 := i13.2.2 j9
        refine fw_iftd (cc := .ne) (pc := 22) (off := 5) (by decide +kernel) (by decide) ⟨by decide, by decide⟩ (by decide) ?_
        refine gm_sz (gm_p_load (pc := 27) (i := .aload_n 0) (sr := 2) (j := 0) (by decide +kernel) rfl rfl rfl) ?_
        refine gm_sz (gm_p_const (pc := 28) (i := .bipush 11) (v := gm_vi 11) (by decide +kernel) (by decide +kernel)) ?_
        refine gm_sz (gm_p_const (pc := 30) (i := .iconst 0) (v := gm_vi 0) (by decide +kernel) (by decide +kernel)) ?_
        refine gm_c_virt (k := 226) (ci := 11) (mj := 279) (ix := 227) (pc := 31) (as := [gm_vi 11, gm_vi 0]) (st := []) (d' := d - 1) (bc' := 0) (bs' := 0) (by decide +kernel) (by decide +kernel) (by decide +kernel) (by decide +kernel) (tR226 hE).1 (tR226 hE).2 (by decide) (by decide +kernel) (show 2 = gm_na 279 by decide +kernel) (fw_c2 fw_si fw_si) (show 3 ≤ gm_ml 279 by decide +kernel) (Nat.le_of_ble_eq_true rfl) (by omega) (Nat.zero_le _) (Nat.zero_le _) ?_
        refine tr_c279 hE ⟨by omega, by omega⟩ (fun W15 => ?_)
        show gm_Wp X LX d _ _ 280 34 _ [] n K R _ Q
        refine gm_sz (gm_p_goto (pc := 34) (off := (-25)) (by decide +kernel) (by decide)) ?_
        have yp : g_pt (M 231) e (tx_n (M 231) e c) := Classical.byContradiction (fun hh => by rw [g_p0 hh] at j9; cases j9)
        rw [g_sm2 j1 yp] at h1 h0
        rw [g_p1 yp] at q10
        have hn4 := tx_nb (f := M 231) hn2
        have hn5 := hn4.2.2 (g_pk yp)
        refine ih _ _ _ _ _ _ (by omega) q10b q10 ⟨by omega, by omega⟩ (fun p2 bg2 st2 W2 r1 r2 r3 r4 => h1 p2 bg2 st2 W2 r1 r2 r3 ⟨by omega, by omega, by omega⟩) h0
      · show gm_Wp X LX d _ _ 280 22 _ [gm_vi 0] n K R _ Q
        have j9 : ¬ (g_par (M 231) e (tx_n (M 231) e c)).1 = true := j9
        have g11 : 0 ≤ (g_par (M 231) e (tx_n (M 231) e c)).2 ∧ (g_par (M 231) e (tx_n (M 231) e c)).2 ≤ e := by have := g_par_in (f := M 231) (tx_n (M 231) e c) g3.1 g3.2; have := g3.1; omega
        refine fw_iffd (cc := .ne) (pc := 22) (off := 5) (by decide +kernel) (by decide) ⟨by decide, by decide⟩ (by decide) ?_
        refine gm_sz (gm_p_const (pc := 25) (i := .iconst 0) (v := gm_vi 0) (by decide +kernel) (by decide +kernel)) ?_
        have np : ¬ g_pt (M 231) e (tx_n (M 231) e c) := fun hh => j9 (by rw [g_p1 hh])
        rw [g_sm1 j1 np] at h0
        rw [show g_par (M 231) e (tx_g (M 231) e (tx_s (M 231) e c)) = (false, tx_n (M 231) e c) from g_p0 np]
        exact gm_r_int (pc := 26) (by decide +kernel) (Or.inr ⟨(by decide +kernel), Or.inl rfl⟩) (h0 _ _ _ _ (fun h => by cases h))
    · show gm_Wp X LX d _ _ 280 15 _ [gm_vi 0] n K R _ Q
      have j1 : ¬ tx_k (M 231) e c = 43 := j1
      have q4 : tx_g (M 231) e c = c := by rw [← hg]; exact tx_gi hp.2
      refine fw_iftd (cc := .eq) (pc := 15) (off := 22) (by decide +kernel) (by decide) ⟨by decide, by decide⟩ (by decide) ?_
      refine gm_sz (gm_p_const (pc := 37) (i := .iconst 1) (v := gm_vi 1) (by decide +kernel) (by decide +kernel)) ?_
      rw [g_sm0 j1] at h1
      exact gm_r_int (pc := 38) (by decide +kernel) (Or.inr ⟨(by decide +kernel), Or.inr rfl⟩) (h1 _ _ _ _ rfl hb q4 ⟨by omega, by omega, by omega⟩)
theorem tr_c280 (hE : tR n K R M e) : cR X LX n K R M e dp 280 (g_sum (M 231) e 400) 9 := by
  obtain ⟨-, he0, he4⟩ := tRe hE
  intro d bc bs pt b bg st W Q hd hp hg hst h1 h0
  obtain ⟨hg1, hg2, -⟩ := tx_gb (f := M 231) hp.2
  rw [hg] at hg1 hg2
  have hb : 0 ≤ b ∧ b ≤ e := ⟨by omega, hg2⟩
  refine gm_sz (gm_p_load (pc := 0) (i := .aload_n 0) (sr := 2) (j := 0) (by decide +kernel) rfl rfl rfl) ?_
  refine gm_c_virt (k := 226) (ci := 11) (mj := 281) (ix := 245) (pc := 1) (as := []) (st := []) (d' := d - 1) (bc' := 0) (bs' := 0) (by decide +kernel) (by decide +kernel) (by decide +kernel) (by decide +kernel) (tR226 hE).1 (tR226 hE).2 (by decide) (by decide +kernel) (show 0 = gm_na 281 by decide +kernel) fw_c0 (show 1 ≤ gm_ml 281 by decide +kernel) (Nat.le_of_ble_eq_true rfl) (by omega) (Nat.zero_le _) (Nat.zero_le _) ?_
  refine tr_c281 hE _ _ _ _ _ _ _ _ _ (by omega) hp hg ⟨by omega, by omega⟩ (fun p1 x2 s3 W4 j5 q6b q6 t8 => ?_) (fun p1 x10 s3 W4 j5 => ?_)
  · show gm_Wp X LX d _ _ 280 4 _ [gm_vi 1] n K R _ Q
    have j5 : (g_par (M 231) e b).1 = true := j5
    have q6 : tx_g (M 231) e p1 = (g_par (M 231) e b).2 := q6
    have g7 : 0 ≤ (g_par (M 231) e b).2 ∧ (g_par (M 231) e b).2 ≤ e := by have := g_par_in (f := M 231) b hb.1 hb.2; have := hb.1; omega
    have i9 := (g_par_in (f := M 231) b hb.1 hb.2)
    have i9 := i9.2.2 j5
    refine fw_iftd (cc := .ne) (pc := 4) (off := 5) (by decide +kernel) (by decide) ⟨by decide, by decide⟩ (by decide) ?_
    have yp : g_pt (M 231) e b := Classical.byContradiction (fun hh => by rw [g_p0 hh] at j5; cases j5)
    rw [g_sme (t := 399) yp] at h1 h0
    rw [g_p1 yp] at q6
    have hn4 := tx_nb (f := M 231) hb.2
    exact tr_s280 hd hE 399 _ _ _ _ _ _ (by omega) q6b q6 ⟨by omega, by omega⟩ (fun p2 bg2 st2 W2 r1 r2 r3 r4 => h1 p2 bg2 st2 W2 r1 r2 r3 ⟨by omega, by omega, by omega⟩) h0
  · show gm_Wp X LX d _ _ 280 4 _ [gm_vi 0] n K R _ Q
    have j5 : ¬ (g_par (M 231) e b).1 = true := j5
    have g7 : 0 ≤ (g_par (M 231) e b).2 ∧ (g_par (M 231) e b).2 ≤ e := by have := g_par_in (f := M 231) b hb.1 hb.2; have := hb.1; omega
    refine fw_iffd (cc := .ne) (pc := 4) (off := 5) (by decide +kernel) (by decide) ⟨by decide, by decide⟩ (by decide) ?_
    refine gm_sz (gm_p_const (pc := 7) (i := .iconst 0) (v := gm_vi 0) (by decide +kernel) (by decide +kernel)) ?_
    have np : ¬ g_pt (M 231) e b := fun hh => j5 (by rw [g_p1 hh])
    rw [g_sum0 (t := 399) np] at h0
    rw [g_p0 np]
    exact gm_r_int (pc := 8) (by decide +kernel) (Or.inr ⟨(by decide +kernel), Or.inl rfl⟩) (h0 _ _ _ _ (fun h => by cases h))
theorem tr_c277 {A A2 : Int → Bool × Int} {ok : Prop} {dA dC dn : Nat} (hE : tR n K R M e) (hdep : 0 ≤ dp ∧ dp ≤ 6) (hok6 : ok ↔ dp < 6) (hA : ok → cR X LX n K R M e (dp + 1) 277 A dA) (hC : ok → cR X LX n K R M e (dp + 1) 275 A2 dC) (iA : g_in e A) (iC : g_in e A2) (hd9 : 10 ≤ dn ∧ (ok → dA + 1 ≤ dn ∧ dC + 1 ≤ dn)) : cR X LX n K R M e dp 277 (g_atm (M 231) e A A2 ok) dn := by
  obtain ⟨-, he0, he4⟩ := tRe hE
  intro d bc bs pt b bg st W Q hd hp hg hst h1 h0
  obtain ⟨hg1, hg2, -⟩ := tx_gb (f := M 231) hp.2
  rw [hg] at hg1 hg2
  have hb : 0 ≤ b ∧ b ≤ e := ⟨by omega, hg2⟩
  have hkb := tx_kc (f := M 231) (e := e) (b := b) (fun h => tRb hE hb.1 (by omega))
  have hsb := g_sum_in (f := M 231) 400 b hb.1 hb.2
  refine gm_sz (gm_p_load (pc := 0) (i := .aload_n 0) (sr := 2) (j := 0) (by decide +kernel) rfl rfl rfl) ?_
  refine gm_sz (gm_p_const (pc := 1) (i := .bipush 40) (v := gm_vi 40) (by decide +kernel) (by decide +kernel)) ?_
  refine gm_c_virt (k := 226) (ci := 11) (mj := 278) (ix := 248) (pc := 3) (as := [gm_vi 40]) (st := []) (d' := d - 1) (bc' := 0) (bs' := 0) (by decide +kernel) (by decide +kernel) (by decide +kernel) (by decide +kernel) (tR226 hE).1 (tR226 hE).2 (by decide) (by decide +kernel) (show 1 = gm_na 278 by decide +kernel) (fw_c1 fw_si) (show 2 ≤ gm_ml 278 by decide +kernel) (Nat.le_of_ble_eq_true rfl) (by omega) (Nat.zero_le _) (Nat.zero_le _) ?_
  refine tr_c278 (by omega) hE (by decide) hp hg (fun j1 => ?_) (fun j1 => ?_)
  · show gm_Wp X LX d _ _ 277 6 _ [gm_vi 1] n K R _ Q
    have j1 : tx_k (M 231) e b = 40 := j1
    have g2 : 0 ≤ tx_s (M 231) e b ∧ tx_s (M 231) e b ≤ e := by have := tx_sb (f := M 231) hb.2; have := hb.1; omega
    have g3 : 0 ≤ tx_n (M 231) e b ∧ tx_n (M 231) e b ≤ e := by have := tx_gb (f := M 231) g2.2; have := g2.1; unfold tx_n; omega
    have j1s := (tx_sb (f := M 231) hb.2).2.2 (tx_kne (f := M 231) (by omega))
    have j1p := (tx_gb (f := M 231) hp.2).1
    rw [hg] at j1p
    refine fw_iffd (cc := .eq) (pc := 6) (off := 50) (by decide +kernel) (by decide) ⟨by decide, by decide⟩ (by decide) ?_
    refine gm_sz (gm_p_load (pc := 9) (i := .aload_n 0) (sr := 2) (j := 0) (by decide +kernel) rfl rfl rfl) ?_
    refine gm_sz (fw_gi (pc := 10) (ix := 251) (ci := 11) (j := 12) (x := dp) (by decide +kernel) (tR226 hE) (by decide +kernel) (by decide +kernel) rfl) ?_
    refine gm_sz (gm_p_const (pc := 13) (i := .bipush 6) (v := gm_vi 6) (by decide +kernel) (by decide +kernel)) ?_
    refine fw_ic (cc := .ne) (pc := 15) (off := 5) (by decide +kernel) (by decide) ⟨by omega, by omega⟩ ⟨by decide, by decide⟩ (fun j5 => ?_) (fun j5 => ?_)
    · have j5 : ¬ dp = 6 := j5
      refine gm_sz (gm_p_load (pc := 20) (i := .aload_n 0) (sr := 2) (j := 0) (by decide +kernel) rfl rfl rfl) ?_
      refine gm_sz (gm_p_dup (pc := 21) (by decide +kernel) fw_sr) ?_
      refine gm_sz (fw_gi (pc := 22) (ix := 251) (ci := 11) (j := 12) (x := dp) (by decide +kernel) (tR226 hE) (by decide +kernel) (by decide +kernel) rfl) ?_
      refine gm_sz (gm_p_const (pc := 25) (i := .iconst 1) (v := gm_vi 1) (by decide +kernel) (by decide +kernel)) ?_
      refine gm_sz (gm_p_bin (pc := 26) (i := .iadd) (f := fun x y => x + y) (by decide +kernel) rfl) ?_
      refine gm_sz (fw_pi (pc := 27) (ix := 251) (ci := 11) (j := 12) (M' := rm M (tx_s (M 231) e b) b (dp + 1) st W) (by decide +kernel) (tR226 hE) (by decide +kernel) (by decide +kernel) (by decide +kernel) rm_dp) ?_
      refine gm_sz (gm_p_load (pc := 30) (i := .aload_n 0) (sr := 2) (j := 0) (by decide +kernel) rfl rfl rfl) ?_
      refine gm_c_virt (k := 226) (ci := 11) (mj := 275) (ix := 253) (pc := 31) (as := []) (st := []) (d' := d - 1) (bc' := 0) (bs' := 0) (by decide +kernel) (by decide +kernel) (by decide +kernel) (by decide +kernel) (tR226 hE).1 (tR226 hE).2 (by decide) (by decide +kernel) (show 0 = gm_na 275 by decide +kernel) fw_c0 (show 1 ≤ gm_ml 275 by decide +kernel) (Nat.le_of_ble_eq_true rfl) (by omega) (Nat.zero_le _) (Nat.zero_le _) ?_
      refine hC (hok6.mpr (by omega)) _ _ _ _ _ _ _ _ _ (by have := hd9.2 (hok6.mpr (by omega)); omega) g2 rfl ⟨by omega, by omega⟩ (fun p6 x7 s8 W9 j10 q11b q11 t13 => ?_) (fun p6 x15 s8 W9 j10 => ?_)
      · show gm_Wp X LX d _ _ 277 34 _ [gm_vi 1] n K R _ Q
        have j10 : (A2 (tx_n (M 231) e b)).1 = true := j10
        have q11 : tx_g (M 231) e p6 = (A2 (tx_n (M 231) e b)).2 := q11
        have g12 : 0 ≤ (A2 (tx_n (M 231) e b)).2 ∧ (A2 (tx_n (M 231) e b)).2 ≤ e := by have := iC (tx_n (M 231) e b) g3.1 g3.2; have := g3.1; omega
        have i14 := (iC (tx_n (M 231) e b) g3.1 g3.2)
        have i14 := i14.2.2 j10
        refine fw_iftd (cc := .ne) (pc := 34) (off := 5) (by decide +kernel) (by decide) ⟨by decide, by decide⟩ (by decide) ?_
        refine gm_sz (gm_p_load (pc := 39) (i := .aload_n 0) (sr := 2) (j := 0) (by decide +kernel) rfl rfl rfl) ?_
        refine gm_sz (gm_p_dup (pc := 40) (by decide +kernel) fw_sr) ?_
        refine gm_sz (fw_gi (pc := 41) (ix := 251) (ci := 11) (j := 12) (x := dp + 1) (by decide +kernel) (tR226 hE) (by decide +kernel) (by decide +kernel) rfl) ?_
        refine gm_sz (gm_p_const (pc := 44) (i := .iconst 1) (v := gm_vi 1) (by decide +kernel) (by decide +kernel)) ?_
        refine gm_sz (gm_p_bin (pc := 45) (i := .isub) (f := fun x y => x - y) (by decide +kernel) rfl) ?_
        refine gm_sz (fw_pi (pc := 46) (ix := 251) (ci := 11) (j := 12) (M' := rm M p6 x7 dp s8 W9) (by decide +kernel) (tR226 hE) (by decide +kernel) (by decide +kernel) (by decide +kernel) (by rw [rm_dp, show dp + 1 - 1 = dp by omega])) ?_
        refine gm_sz (gm_p_load (pc := 49) (i := .aload_n 0) (sr := 2) (j := 0) (by decide +kernel) rfl rfl rfl) ?_
        refine gm_sz (gm_p_const (pc := 50) (i := .bipush 41) (v := gm_vi 41) (by decide +kernel) (by decide +kernel)) ?_
        refine gm_c_virt (k := 226) (ci := 11) (mj := 278) (ix := 248) (pc := 52) (as := [gm_vi 41]) (st := []) (d' := d - 1) (bc' := 0) (bs' := 0) (by decide +kernel) (by decide +kernel) (by decide +kernel) (by decide +kernel) (tR226 hE).1 (tR226 hE).2 (by decide) (by decide +kernel) (show 1 = gm_na 278 by decide +kernel) (fw_c1 fw_si) (show 2 ≤ gm_ml 278 by decide +kernel) (Nat.le_of_ble_eq_true rfl) (by omega) (Nat.zero_le _) (Nat.zero_le _) ?_
        refine tr_c278 (by omega) hE (by decide) q11b q11 (fun j16 => ?_) (fun j16 => ?_)
        · show gm_Wp X LX d _ _ 277 55 _ [gm_vi 1] n K R _ Q
          have j16 : tx_k (M 231) e ((A2 (tx_n (M 231) e b)).2) = 41 := j16
          have g17 : 0 ≤ tx_s (M 231) e ((A2 (tx_n (M 231) e b)).2) ∧ tx_s (M 231) e ((A2 (tx_n (M 231) e b)).2) ≤ e := by have := tx_sb (f := M 231) g12.2; have := g12.1; omega
          have g18 : 0 ≤ tx_n (M 231) e ((A2 (tx_n (M 231) e b)).2) ∧ tx_n (M 231) e ((A2 (tx_n (M 231) e b)).2) ≤ e := by have := tx_gb (f := M 231) g17.2; have := g17.1; have h9 : tx_n (M 231) e ((A2 (tx_n (M 231) e b)).2) = tx_g (M 231) e (tx_s (M 231) e ((A2 (tx_n (M 231) e b)).2)) := rfl; omega
          have j16s := (tx_sb (f := M 231) g12.2).2.2 (tx_kne (f := M 231) (by omega))
          have j16p := (tx_gb (f := M 231) q11b.2).1
          rw [q11] at j16p
          rw [g_a3 (fun h => by have := g_kis h; omega) j1 (hok6.mpr (by omega)) j10 j16] at h1
          exact gm_r_int (pc := 55) (by decide +kernel) (Or.inr ⟨(by decide +kernel), Or.inr rfl⟩) (h1 _ _ _ _ rfl g17 rfl ⟨by omega, by omega, by omega⟩)
        · show gm_Wp X LX d _ _ 277 55 _ [gm_vi 0] n K R _ Q
          have j16 : ¬ tx_k (M 231) e ((A2 (tx_n (M 231) e b)).2) = 41 := j16
          have q19 : tx_g (M 231) e ((A2 (tx_n (M 231) e b)).2) = (A2 (tx_n (M 231) e b)).2 := by rw [← q11]; exact tx_gi q11b.2
          rw [g_a4 (fun h => by have := g_kis h; omega) j1 (hok6.mpr (by omega)) j10 j16] at h0
          exact gm_r_int (pc := 55) (by decide +kernel) (Or.inr ⟨(by decide +kernel), Or.inl rfl⟩) (h0 _ _ _ _ (fun h => by cases h))
      · show gm_Wp X LX d _ _ 277 34 _ [gm_vi 0] n K R _ Q
        have j10 : ¬ (A2 (tx_n (M 231) e b)).1 = true := j10
        have g12 : 0 ≤ (A2 (tx_n (M 231) e b)).2 ∧ (A2 (tx_n (M 231) e b)).2 ≤ e := by have := iC (tx_n (M 231) e b) g3.1 g3.2; have := g3.1; omega
        refine fw_iffd (cc := .ne) (pc := 34) (off := 5) (by decide +kernel) (by decide) ⟨by decide, by decide⟩ (by decide) ?_
        refine gm_sz (gm_p_const (pc := 37) (i := .iconst 0) (v := gm_vi 0) (by decide +kernel) (by decide +kernel)) ?_
        rw [g_a2 (fun h => by have := g_kis h; omega) j1 (hok6.mpr (by omega)) j10] at h0
        exact gm_r_int (pc := 38) (by decide +kernel) (Or.inr ⟨(by decide +kernel), Or.inl rfl⟩) (h0 _ _ _ _ j10)
    · have j5 : dp = 6 := Classical.not_not.mp j5
      refine gm_sz (gm_p_const (pc := 18) (i := .iconst 0) (v := gm_vi 0) (by decide +kernel) (by decide +kernel)) ?_
      rw [g_a0 (Or.inr j1) (fun h => by have := hok6.mp h; omega)] at h0
      exact gm_r_int (pc := 19) (by decide +kernel) (Or.inr ⟨(by decide +kernel), Or.inl rfl⟩) (h0 _ _ _ _ (fun h => by cases h))
  · show gm_Wp X LX d _ _ 277 6 _ [gm_vi 0] n K R _ Q
    have j1 : ¬ tx_k (M 231) e b = 40 := j1
    have q4 : tx_g (M 231) e b = b := by rw [← hg]; exact tx_gi hp.2
    refine fw_iftd (cc := .eq) (pc := 6) (off := 50) (by decide +kernel) (by decide) ⟨by decide, by decide⟩ (by decide) ?_
    refine gm_sz (gm_p_load (pc := 56) (i := .aload_n 0) (sr := 2) (j := 0) (by decide +kernel) rfl rfl rfl) ?_
    refine gm_sz (gm_p_ldcs (pc := 57) (i := .ldc_w 256) (ix := 256) (id := 63) (by decide +kernel) (Or.inr rfl) (by decide +kernel)) ?_
    refine gm_c_virt (k := 226) (ci := 11) (mj := 269) (ix := 170) (pc := 60) (as := [gm_vo 63]) (st := []) (d' := d - 1) (bc' := 0) (bs' := 0) (by decide +kernel) (by decide +kernel) (by decide +kernel) (by decide +kernel) (tR226 hE).1 (tR226 hE).2 (by decide) (by decide +kernel) (show 1 = gm_na 269 by decide +kernel) (fw_c1 fw_so) (show 2 ≤ gm_ml 269 by decide +kernel) (Nat.le_of_ble_eq_true rfl) (by omega) (Nat.zero_le _) (Nat.zero_le _) ?_
    refine tr_c269 (by omega) hE (by decide) (show tx_o 63 = wo_not by decide +kernel) (by decide) hb q4 (fun j20 => ?_) (fun j20 => ?_)
    · show gm_Wp X LX d _ _ 277 63 _ [gm_vi 1] n K R _ Q
      have j20 : tx_is (M 231) e b wo_not := j20
      have g21 : 0 ≤ tx_s (M 231) e b ∧ tx_s (M 231) e b ≤ e := by have := tx_sb (f := M 231) hb.2; have := hb.1; omega
      have g22 : 0 ≤ tx_n (M 231) e b ∧ tx_n (M 231) e b ≤ e := by have := tx_gb (f := M 231) g21.2; have := g21.1; unfold tx_n; omega
      have j20s := (tx_sb (f := M 231) hb.2).2.2 (g_isb j20)
      have j20p := (tx_gb (f := M 231) hb.2).1
      rw [q4] at j20p
      refine fw_iffd (cc := .eq) (pc := 63) (off := 52) (by decide +kernel) (by decide) ⟨by decide, by decide⟩ (by decide) ?_
      refine gm_sz (gm_p_load (pc := 66) (i := .aload_n 0) (sr := 2) (j := 0) (by decide +kernel) rfl rfl rfl) ?_
      refine gm_sz (fw_gi (pc := 67) (ix := 251) (ci := 11) (j := 12) (x := dp) (by decide +kernel) (tR226 hE) (by decide +kernel) (by decide +kernel) rfl) ?_
      refine gm_sz (gm_p_const (pc := 70) (i := .bipush 6) (v := gm_vi 6) (by decide +kernel) (by decide +kernel)) ?_
      refine fw_ic (cc := .ne) (pc := 72) (off := 5) (by decide +kernel) (by decide) ⟨by omega, by omega⟩ ⟨by decide, by decide⟩ (fun j24 => ?_) (fun j24 => ?_)
      · have j24 : ¬ dp = 6 := j24
        refine gm_sz (gm_p_load (pc := 77) (i := .aload_n 0) (sr := 2) (j := 0) (by decide +kernel) rfl rfl rfl) ?_
        refine gm_sz (gm_p_dup (pc := 78) (by decide +kernel) fw_sr) ?_
        refine gm_sz (fw_gi (pc := 79) (ix := 251) (ci := 11) (j := 12) (x := dp) (by decide +kernel) (tR226 hE) (by decide +kernel) (by decide +kernel) rfl) ?_
        refine gm_sz (gm_p_const (pc := 82) (i := .iconst 1) (v := gm_vi 1) (by decide +kernel) (by decide +kernel)) ?_
        refine gm_sz (gm_p_bin (pc := 83) (i := .iadd) (f := fun x y => x + y) (by decide +kernel) rfl) ?_
        refine gm_sz (fw_pi (pc := 84) (ix := 251) (ci := 11) (j := 12) (M' := rm M (tx_s (M 231) e b) b (dp + 1) st W) (by decide +kernel) (tR226 hE) (by decide +kernel) (by decide +kernel) (by decide +kernel) rm_dp) ?_
        refine gm_sz (gm_p_load (pc := 87) (i := .aload_n 0) (sr := 2) (j := 0) (by decide +kernel) rfl rfl rfl) ?_
        refine gm_c_virt (k := 226) (ci := 11) (mj := 277) (ix := 258) (pc := 88) (as := []) (st := []) (d' := d - 1) (bc' := 0) (bs' := 0) (by decide +kernel) (by decide +kernel) (by decide +kernel) (by decide +kernel) (tR226 hE).1 (tR226 hE).2 (by decide) (by decide +kernel) (show 0 = gm_na 277 by decide +kernel) fw_c0 (show 1 ≤ gm_ml 277 by decide +kernel) (Nat.le_of_ble_eq_true rfl) (by omega) (Nat.zero_le _) (Nat.zero_le _) ?_
        refine hA (hok6.mpr (by omega)) _ _ _ _ _ _ _ _ _ (by have := hd9.2 (hok6.mpr (by omega)); omega) g21 rfl ⟨by omega, by omega⟩ (fun p25 x26 s27 W28 j29 q30b q30 t32 => ?_) (fun p25 x34 s27 W28 j29 => ?_)
        · show gm_Wp X LX d _ _ 277 91 _ [gm_vi 1] n K R _ Q
          have j29 : (A (tx_n (M 231) e b)).1 = true := j29
          have q30 : tx_g (M 231) e p25 = (A (tx_n (M 231) e b)).2 := q30
          have g31 : 0 ≤ (A (tx_n (M 231) e b)).2 ∧ (A (tx_n (M 231) e b)).2 ≤ e := by have := iA (tx_n (M 231) e b) g22.1 g22.2; have := g22.1; omega
          have i33 := (iA (tx_n (M 231) e b) g22.1 g22.2)
          have i33 := i33.2.2 j29
          refine fw_iftd (cc := .ne) (pc := 91) (off := 5) (by decide +kernel) (by decide) ⟨by decide, by decide⟩ (by decide) ?_
          refine gm_sz (gm_p_load (pc := 96) (i := .aload_n 0) (sr := 2) (j := 0) (by decide +kernel) rfl rfl rfl) ?_
          refine gm_sz (gm_p_dup (pc := 97) (by decide +kernel) fw_sr) ?_
          refine gm_sz (fw_gi (pc := 98) (ix := 251) (ci := 11) (j := 12) (x := dp + 1) (by decide +kernel) (tR226 hE) (by decide +kernel) (by decide +kernel) rfl) ?_
          refine gm_sz (gm_p_const (pc := 101) (i := .iconst 1) (v := gm_vi 1) (by decide +kernel) (by decide +kernel)) ?_
          refine gm_sz (gm_p_bin (pc := 102) (i := .isub) (f := fun x y => x - y) (by decide +kernel) rfl) ?_
          refine gm_sz (fw_pi (pc := 103) (ix := 251) (ci := 11) (j := 12) (M' := rm M p25 x26 dp s27 W28) (by decide +kernel) (tR226 hE) (by decide +kernel) (by decide +kernel) (by decide +kernel) (by rw [rm_dp, show dp + 1 - 1 = dp by omega])) ?_
          refine gm_sz (gm_p_load (pc := 106) (i := .aload_n 0) (sr := 2) (j := 0) (by decide +kernel) rfl rfl rfl) ?_
          refine gm_sz (gm_p_const (pc := 107) (i := .bipush 14) (v := gm_vi 14) (by decide +kernel) (by decide +kernel)) ?_
          refine gm_sz (gm_p_const (pc := 109) (i := .iconst 0) (v := gm_vi 0) (by decide +kernel) (by decide +kernel)) ?_
          refine gm_c_virt (k := 226) (ci := 11) (mj := 279) (ix := 227) (pc := 110) (as := [gm_vi 14, gm_vi 0]) (st := []) (d' := d - 1) (bc' := 0) (bs' := 0) (by decide +kernel) (by decide +kernel) (by decide +kernel) (by decide +kernel) (tR226 hE).1 (tR226 hE).2 (by decide) (by decide +kernel) (show 2 = gm_na 279 by decide +kernel) (fw_c2 fw_si fw_si) (show 3 ≤ gm_ml 279 by decide +kernel) (Nat.le_of_ble_eq_true rfl) (by omega) (Nat.zero_le _) (Nat.zero_le _) ?_
          refine tr_c279 hE ⟨by omega, by omega⟩ (fun W35 => ?_)
          show gm_Wp X LX d _ _ 277 113 _ [] n K R _ Q
          refine gm_sz (gm_p_const (pc := 113) (i := .iconst 1) (v := gm_vi 1) (by decide +kernel) (by decide +kernel)) ?_
          rw [g_a1 j20 (hok6.mpr (by omega))] at h1
          exact gm_r_int (pc := 114) (by decide +kernel) (Or.inr ⟨(by decide +kernel), Or.inr rfl⟩) (h1 _ _ _ _ j29 q30b q30 ⟨by omega, by omega, by omega⟩)
        · show gm_Wp X LX d _ _ 277 91 _ [gm_vi 0] n K R _ Q
          have j29 : ¬ (A (tx_n (M 231) e b)).1 = true := j29
          have g31 : 0 ≤ (A (tx_n (M 231) e b)).2 ∧ (A (tx_n (M 231) e b)).2 ≤ e := by have := iA (tx_n (M 231) e b) g22.1 g22.2; have := g22.1; omega
          refine fw_iffd (cc := .ne) (pc := 91) (off := 5) (by decide +kernel) (by decide) ⟨by decide, by decide⟩ (by decide) ?_
          refine gm_sz (gm_p_const (pc := 94) (i := .iconst 0) (v := gm_vi 0) (by decide +kernel) (by decide +kernel)) ?_
          rw [g_a1 j20 (hok6.mpr (by omega))] at h0
          exact gm_r_int (pc := 95) (by decide +kernel) (Or.inr ⟨(by decide +kernel), Or.inl rfl⟩) (h0 _ _ _ _ j29)
      · have j24 : dp = 6 := Classical.not_not.mp j24
        refine gm_sz (gm_p_const (pc := 75) (i := .iconst 0) (v := gm_vi 0) (by decide +kernel) (by decide +kernel)) ?_
        rw [g_a0 (Or.inl j20) (fun h => by have := hok6.mp h; omega)] at h0
        exact gm_r_int (pc := 76) (by decide +kernel) (Or.inr ⟨(by decide +kernel), Or.inl rfl⟩) (h0 _ _ _ _ (fun h => by cases h))
    · show gm_Wp X LX d _ _ 277 63 _ [gm_vi 0] n K R _ Q
      have j20 : ¬ tx_is (M 231) e b wo_not := j20
      have q23 : tx_g (M 231) e b = b := by rw [← q4]; exact tx_gi hb.2
      refine fw_iftd (cc := .eq) (pc := 63) (off := 52) (by decide +kernel) (by decide) ⟨by decide, by decide⟩ (by decide) ?_
      refine gm_sz (gm_p_load (pc := 115) (i := .aload_n 0) (sr := 2) (j := 0) (by decide +kernel) rfl rfl rfl) ?_
      refine gm_sz (gm_p_ldcs (pc := 116) (i := .ldc_w 261) (ix := 261) (id := 64) (by decide +kernel) (Or.inr rfl) (by decide +kernel)) ?_
      refine gm_c_virt (k := 226) (ci := 11) (mj := 269) (ix := 170) (pc := 119) (as := [gm_vo 64]) (st := []) (d' := d - 1) (bc' := 0) (bs' := 0) (by decide +kernel) (by decide +kernel) (by decide +kernel) (by decide +kernel) (tR226 hE).1 (tR226 hE).2 (by decide) (by decide +kernel) (show 1 = gm_na 269 by decide +kernel) (fw_c1 fw_so) (show 2 ≤ gm_ml 269 by decide +kernel) (Nat.le_of_ble_eq_true rfl) (by omega) (Nat.zero_le _) (Nat.zero_le _) ?_
      refine tr_c269 (by omega) hE (by decide) (show tx_o 64 = wo_side by decide +kernel) (by decide) hb q23 (fun j36 => ?_) (fun j36 => ?_)
      · show gm_Wp X LX d _ _ 277 122 _ [gm_vi 1] n K R _ Q
        have j36 : tx_is (M 231) e b wo_side := j36
        have g37 : 0 ≤ tx_s (M 231) e b ∧ tx_s (M 231) e b ≤ e := by have := tx_sb (f := M 231) hb.2; have := hb.1; omega
        have g38 : 0 ≤ tx_n (M 231) e b ∧ tx_n (M 231) e b ≤ e := by have := tx_gb (f := M 231) g37.2; have := g37.1; unfold tx_n; omega
        have j36s := (tx_sb (f := M 231) hb.2).2.2 (g_isb j36)
        have j36p := (tx_gb (f := M 231) hb.2).1
        rw [q23] at j36p
        refine gm_sz (gm_p_stor (pc := 122) (i := .istore_n 1) (sr := 0) (j := 1) (by decide +kernel) rfl (show 2 ≤ _ from Nat.le_of_ble_eq_true rfl) rfl) ?_
        refine gm_sz (gm_p_load (pc := 123) (i := .iload_n 1) (sr := 0) (j := 1) (by decide +kernel) rfl rfl rfl) ?_
        refine fw_iftd (cc := .ne) (pc := 124) (off := 13) (by decide +kernel) (by decide) ⟨by decide, by decide⟩ (by decide) ?_
        refine gm_sz (gm_p_load (pc := 137) (i := .aload_n 0) (sr := 2) (j := 0) (by decide +kernel) rfl rfl rfl) ?_
        refine gm_sz (gm_p_load (pc := 138) (i := .iload_n 1) (sr := 0) (j := 1) (by decide +kernel) rfl rfl rfl) ?_
        refine fw_iffd (cc := .eq) (pc := 139) (off := 8) (by decide +kernel) (by decide) ⟨by decide, by decide⟩ (by decide) ?_
        refine gm_sz (gm_p_const (pc := 142) (i := .bipush 8) (v := gm_vi 8) (by decide +kernel) (by decide +kernel)) ?_
        refine gm_sz (gm_p_goto (pc := 144) (off := 5) (by decide +kernel) (by decide)) ?_
        refine gm_sz (gm_p_const (pc := 149) (i := .iconst 0) (v := gm_vi 0) (by decide +kernel) (by decide +kernel)) ?_
        refine gm_c_virt (k := 226) (ci := 11) (mj := 279) (ix := 227) (pc := 150) (as := [gm_vi 8, gm_vi 0]) (st := []) (d' := d - 1) (bc' := 0) (bs' := 0) (by decide +kernel) (by decide +kernel) (by decide +kernel) (by decide +kernel) (tR226 hE).1 (tR226 hE).2 (by decide) (by decide +kernel) (show 2 = gm_na 279 by decide +kernel) (fw_c2 fw_si fw_si) (show 3 ≤ gm_ml 279 by decide +kernel) (Nat.le_of_ble_eq_true rfl) (by omega) (Nat.zero_le _) (Nat.zero_le _) ?_
        refine tr_c279 hE ⟨by omega, by omega⟩ (fun W40 => ?_)
        show gm_Wp X LX d _ _ 277 153 _ [] n K R _ Q
        refine gm_sz (gm_p_const (pc := 153) (i := .iconst 1) (v := gm_vi 1) (by decide +kernel) (by decide +kernel)) ?_
        rw [g_a5 j20 j1 (Or.inl j36)] at h1
        exact gm_r_int (pc := 154) (by decide +kernel) (Or.inr ⟨(by decide +kernel), Or.inr rfl⟩) (h1 _ _ _ _ rfl g37 rfl ⟨by omega, by omega, by omega⟩)
      · show gm_Wp X LX d _ _ 277 122 _ [gm_vi 0] n K R _ Q
        have j36 : ¬ tx_is (M 231) e b wo_side := j36
        have q39 : tx_g (M 231) e b = b := by rw [← q23]; exact tx_gi hb.2
        refine gm_sz (gm_p_stor (pc := 122) (i := .istore_n 1) (sr := 0) (j := 1) (by decide +kernel) rfl (show 2 ≤ _ from Nat.le_of_ble_eq_true rfl) rfl) ?_
        refine gm_sz (gm_p_load (pc := 123) (i := .iload_n 1) (sr := 0) (j := 1) (by decide +kernel) rfl rfl rfl) ?_
        refine fw_iffd (cc := .ne) (pc := 124) (off := 13) (by decide +kernel) (by decide) ⟨by decide, by decide⟩ (by decide) ?_
        refine gm_sz (gm_p_load (pc := 127) (i := .aload_n 0) (sr := 2) (j := 0) (by decide +kernel) rfl rfl rfl) ?_
        refine gm_sz (gm_p_ldcs (pc := 128) (i := .ldc_w 263) (ix := 263) (id := 65) (by decide +kernel) (Or.inr rfl) (by decide +kernel)) ?_
        refine gm_c_virt (k := 226) (ci := 11) (mj := 269) (ix := 170) (pc := 131) (as := [gm_vo 65]) (st := []) (d' := d - 1) (bc' := 0) (bs' := 0) (by decide +kernel) (by decide +kernel) (by decide +kernel) (by decide +kernel) (tR226 hE).1 (tR226 hE).2 (by decide) (by decide +kernel) (show 1 = gm_na 269 by decide +kernel) (fw_c1 fw_so) (show 2 ≤ gm_ml 269 by decide +kernel) (Nat.le_of_ble_eq_true rfl) (by omega) (Nat.zero_le _) (Nat.zero_le _) ?_
        refine tr_c269 (by omega) hE (by decide) (show tx_o 65 = wo_first by decide +kernel) (by decide) hb q39 (fun j41 => ?_) (fun j41 => ?_)
        · show gm_Wp X LX d _ _ 277 134 _ [gm_vi 1] n K R _ Q
          have j41 : tx_is (M 231) e b wo_first := j41
          have g42 : 0 ≤ tx_s (M 231) e b ∧ tx_s (M 231) e b ≤ e := by have := tx_sb (f := M 231) hb.2; have := hb.1; omega
          have g43 : 0 ≤ tx_n (M 231) e b ∧ tx_n (M 231) e b ≤ e := by have := tx_gb (f := M 231) g42.2; have := g42.1; unfold tx_n; omega
          have j41s := (tx_sb (f := M 231) hb.2).2.2 (g_isb j41)
          have j41p := (tx_gb (f := M 231) hb.2).1
          rw [q39] at j41p
          refine fw_iffd (cc := .eq) (pc := 134) (off := 21) (by decide +kernel) (by decide) ⟨by decide, by decide⟩ (by decide) ?_
          refine gm_sz (gm_p_load (pc := 137) (i := .aload_n 0) (sr := 2) (j := 0) (by decide +kernel) rfl rfl rfl) ?_
          refine gm_sz (gm_p_load (pc := 138) (i := .iload_n 1) (sr := 0) (j := 1) (by decide +kernel) rfl rfl rfl) ?_
          refine fw_iftd (cc := .eq) (pc := 139) (off := 8) (by decide +kernel) (by decide) ⟨by decide, by decide⟩ (by decide) ?_
          refine gm_sz (gm_p_const (pc := 147) (i := .bipush 9) (v := gm_vi 9) (by decide +kernel) (by decide +kernel)) ?_
          refine gm_sz (gm_p_const (pc := 149) (i := .iconst 0) (v := gm_vi 0) (by decide +kernel) (by decide +kernel)) ?_
          refine gm_c_virt (k := 226) (ci := 11) (mj := 279) (ix := 227) (pc := 150) (as := [gm_vi 9, gm_vi 0]) (st := []) (d' := d - 1) (bc' := 0) (bs' := 0) (by decide +kernel) (by decide +kernel) (by decide +kernel) (by decide +kernel) (tR226 hE).1 (tR226 hE).2 (by decide) (by decide +kernel) (show 2 = gm_na 279 by decide +kernel) (fw_c2 fw_si fw_si) (show 3 ≤ gm_ml 279 by decide +kernel) (Nat.le_of_ble_eq_true rfl) (by omega) (Nat.zero_le _) (Nat.zero_le _) ?_
          refine tr_c279 hE ⟨by omega, by omega⟩ (fun W45 => ?_)
          show gm_Wp X LX d _ _ 277 153 _ [] n K R _ Q
          refine gm_sz (gm_p_const (pc := 153) (i := .iconst 1) (v := gm_vi 1) (by decide +kernel) (by decide +kernel)) ?_
          rw [g_a5 j20 j1 (Or.inr j41)] at h1
          exact gm_r_int (pc := 154) (by decide +kernel) (Or.inr ⟨(by decide +kernel), Or.inr rfl⟩) (h1 _ _ _ _ rfl g42 rfl ⟨by omega, by omega, by omega⟩)
        · show gm_Wp X LX d _ _ 277 134 _ [gm_vi 0] n K R _ Q
          have j41 : ¬ tx_is (M 231) e b wo_first := j41
          have q44 : tx_g (M 231) e b = b := by rw [← q39]; exact tx_gi hb.2
          refine fw_iftd (cc := .eq) (pc := 134) (off := 21) (by decide +kernel) (by decide) ⟨by decide, by decide⟩ (by decide) ?_
          refine gm_sz (gm_p_load (pc := 155) (i := .aload_n 0) (sr := 2) (j := 0) (by decide +kernel) rfl rfl rfl) ?_
          refine gm_c_virt (k := 226) (ci := 11) (mj := 280) (ix := 265) (pc := 156) (as := []) (st := []) (d' := d - 1) (bc' := 0) (bs' := 0) (by decide +kernel) (by decide +kernel) (by decide +kernel) (by decide +kernel) (tR226 hE).1 (tR226 hE).2 (by decide) (by decide +kernel) (show 0 = gm_na 280 by decide +kernel) fw_c0 (show 1 ≤ gm_ml 280 by decide +kernel) (Nat.le_of_ble_eq_true rfl) (by omega) (Nat.zero_le _) (Nat.zero_le _) ?_
          refine tr_c280 hE _ _ _ _ _ _ _ _ _ (by omega) hb q44 ⟨by omega, by omega⟩ (fun p46 x47 s48 W49 j50 q51b q51 t53 => ?_) (fun p46 x55 s48 W49 j50 => ?_)
          · show gm_Wp X LX d _ _ 277 159 _ [gm_vi 1] n K R _ Q
            have j50 : (g_sum (M 231) e 400 b).1 = true := j50
            have q51 : tx_g (M 231) e p46 = (g_sum (M 231) e 400 b).2 := q51
            have g52 : 0 ≤ (g_sum (M 231) e 400 b).2 ∧ (g_sum (M 231) e 400 b).2 ≤ e := by have := g_sum_in (f := M 231) 400 b hb.1 hb.2; have := hb.1; omega
            have i54 := (g_sum_in (f := M 231) 400 b hb.1 hb.2)
            have i54 := i54.2.2 j50
            refine fw_iftd (cc := .ne) (pc := 159) (off := 5) (by decide +kernel) (by decide) ⟨by decide, by decide⟩ (by decide) ?_
            refine gm_sz (gm_p_load (pc := 164) (i := .aload_n 0) (sr := 2) (j := 0) (by decide +kernel) rfl rfl rfl) ?_
            refine gm_sz (gm_p_const (pc := 165) (i := .bipush 60) (v := gm_vi 60) (by decide +kernel) (by decide +kernel)) ?_
            refine gm_c_virt (k := 226) (ci := 11) (mj := 278) (ix := 248) (pc := 167) (as := [gm_vi 60]) (st := []) (d' := d - 1) (bc' := 0) (bs' := 0) (by decide +kernel) (by decide +kernel) (by decide +kernel) (by decide +kernel) (tR226 hE).1 (tR226 hE).2 (by decide) (by decide +kernel) (show 1 = gm_na 278 by decide +kernel) (fw_c1 fw_si) (show 2 ≤ gm_ml 278 by decide +kernel) (Nat.le_of_ble_eq_true rfl) (by omega) (Nat.zero_le _) (Nat.zero_le _) ?_
            refine tr_c278 (by omega) hE (by decide) q51b q51 (fun j56 => ?_) (fun j56 => ?_)
            · show gm_Wp X LX d _ _ 277 170 _ [gm_vi 1] n K R _ Q
              have j56 : tx_k (M 231) e ((g_sum (M 231) e 400 b).2) = 60 := j56
              have g57 : 0 ≤ tx_s (M 231) e ((g_sum (M 231) e 400 b).2) ∧ tx_s (M 231) e ((g_sum (M 231) e 400 b).2) ≤ e := by have := tx_sb (f := M 231) g52.2; have := g52.1; omega
              have g58 : 0 ≤ tx_n (M 231) e ((g_sum (M 231) e 400 b).2) ∧ tx_n (M 231) e ((g_sum (M 231) e 400 b).2) ≤ e := by have := tx_gb (f := M 231) g57.2; have := g57.1; have h9 : tx_n (M 231) e ((g_sum (M 231) e 400 b).2) = tx_g (M 231) e (tx_s (M 231) e ((g_sum (M 231) e 400 b).2)) := rfl; omega
              have j56s := (tx_sb (f := M 231) g52.2).2.2 (tx_kne (f := M 231) (by omega))
              have j56p := (tx_gb (f := M 231) q51b.2).1
              rw [q51] at j56p
              refine gm_sz (gm_p_stor (pc := 170) (i := .istore_n 2) (sr := 0) (j := 2) (by decide +kernel) rfl (show 3 ≤ _ from Nat.le_of_ble_eq_true rfl) rfl) ?_
              refine gm_sz (gm_p_load (pc := 171) (i := .iload_n 2) (sr := 0) (j := 2) (by decide +kernel) rfl rfl rfl) ?_
              refine fw_iftd (cc := .ne) (pc := 172) (off := 12) (by decide +kernel) (by decide) ⟨by decide, by decide⟩ (by decide) ?_
              refine gm_sz (gm_p_load (pc := 184) (i := .aload_n 0) (sr := 2) (j := 0) (by decide +kernel) rfl rfl rfl) ?_
              refine gm_c_virt (k := 226) (ci := 11) (mj := 280) (ix := 265) (pc := 185) (as := []) (st := []) (d' := d - 1) (bc' := 0) (bs' := 0) (by decide +kernel) (by decide +kernel) (by decide +kernel) (by decide +kernel) (tR226 hE).1 (tR226 hE).2 (by decide) (by decide +kernel) (show 0 = gm_na 280 by decide +kernel) fw_c0 (show 1 ≤ gm_ml 280 by decide +kernel) (Nat.le_of_ble_eq_true rfl) (by omega) (Nat.zero_le _) (Nat.zero_le _) ?_
              refine tr_c280 hE _ _ _ _ _ _ _ _ _ (by omega) g57 rfl ⟨by omega, by omega⟩ (fun p60 x61 s62 W63 j64 q65b q65 t67 => ?_) (fun p60 x69 s62 W63 j64 => ?_)
              · show gm_Wp X LX d _ _ 277 188 _ [gm_vi 1] n K R _ Q
                have j64 : (g_sum (M 231) e 400 (tx_n (M 231) e ((g_sum (M 231) e 400 b).2))).1 = true := j64
                have q65 : tx_g (M 231) e p60 = (g_sum (M 231) e 400 (tx_n (M 231) e ((g_sum (M 231) e 400 b).2))).2 := q65
                have g66 : 0 ≤ (g_sum (M 231) e 400 (tx_n (M 231) e ((g_sum (M 231) e 400 b).2))).2 ∧ (g_sum (M 231) e 400 (tx_n (M 231) e ((g_sum (M 231) e 400 b).2))).2 ≤ e := by have := g_sum_in (f := M 231) 400 (tx_n (M 231) e ((g_sum (M 231) e 400 b).2)) g58.1 g58.2; have := g58.1; omega
                have i68 := (g_sum_in (f := M 231) 400 (tx_n (M 231) e ((g_sum (M 231) e 400 b).2)) g58.1 g58.2)
                have i68 := i68.2.2 j64
                refine fw_iftd (cc := .ne) (pc := 188) (off := 5) (by decide +kernel) (by decide) ⟨by decide, by decide⟩ (by decide) ?_
                refine gm_sz (gm_p_load (pc := 193) (i := .aload_n 0) (sr := 2) (j := 0) (by decide +kernel) rfl rfl rfl) ?_
                refine gm_sz (gm_p_load (pc := 194) (i := .iload_n 2) (sr := 0) (j := 2) (by decide +kernel) rfl rfl rfl) ?_
                refine fw_iffd (cc := .eq) (pc := 195) (off := 8) (by decide +kernel) (by decide) ⟨by decide, by decide⟩ (by decide) ?_
                refine gm_sz (gm_p_const (pc := 198) (i := .bipush 12) (v := gm_vi 12) (by decide +kernel) (by decide +kernel)) ?_
                refine gm_sz (gm_p_goto (pc := 200) (off := 5) (by decide +kernel) (by decide)) ?_
                refine gm_sz (gm_p_const (pc := 205) (i := .iconst 0) (v := gm_vi 0) (by decide +kernel) (by decide +kernel)) ?_
                refine gm_c_virt (k := 226) (ci := 11) (mj := 279) (ix := 227) (pc := 206) (as := [gm_vi 12, gm_vi 0]) (st := []) (d' := d - 1) (bc' := 0) (bs' := 0) (by decide +kernel) (by decide +kernel) (by decide +kernel) (by decide +kernel) (tR226 hE).1 (tR226 hE).2 (by decide) (by decide +kernel) (show 2 = gm_na 279 by decide +kernel) (fw_c2 fw_si fw_si) (show 3 ≤ gm_ml 279 by decide +kernel) (Nat.le_of_ble_eq_true rfl) (by omega) (Nat.zero_le _) (Nat.zero_le _) ?_
                refine tr_c279 hE ⟨by omega, by omega⟩ (fun W70 => ?_)
                show gm_Wp X LX d _ _ 277 209 _ [] n K R _ Q
                refine gm_sz (gm_p_const (pc := 209) (i := .iconst 1) (v := gm_vi 1) (by decide +kernel) (by decide +kernel)) ?_
                rw [g_a8 j20 j1 j36 j41 j50 (by omega)] at h1
                exact gm_r_int (pc := 210) (by decide +kernel) (Or.inr ⟨(by decide +kernel), Or.inr rfl⟩) (h1 _ _ _ _ j64 q65b q65 ⟨by omega, by omega, by omega⟩)
              · show gm_Wp X LX d _ _ 277 188 _ [gm_vi 0] n K R _ Q
                have j64 : ¬ (g_sum (M 231) e 400 (tx_n (M 231) e ((g_sum (M 231) e 400 b).2))).1 = true := j64
                have g66 : 0 ≤ (g_sum (M 231) e 400 (tx_n (M 231) e ((g_sum (M 231) e 400 b).2))).2 ∧ (g_sum (M 231) e 400 (tx_n (M 231) e ((g_sum (M 231) e 400 b).2))).2 ≤ e := by have := g_sum_in (f := M 231) 400 (tx_n (M 231) e ((g_sum (M 231) e 400 b).2)) g58.1 g58.2; have := g58.1; omega
                refine fw_iffd (cc := .ne) (pc := 188) (off := 5) (by decide +kernel) (by decide) ⟨by decide, by decide⟩ (by decide) ?_
                refine gm_sz (gm_p_const (pc := 191) (i := .iconst 0) (v := gm_vi 0) (by decide +kernel) (by decide +kernel)) ?_
                rw [g_a8 j20 j1 j36 j41 j50 (by omega)] at h0
                exact gm_r_int (pc := 192) (by decide +kernel) (Or.inr ⟨(by decide +kernel), Or.inl rfl⟩) (h0 _ _ _ _ j64)
            · show gm_Wp X LX d _ _ 277 170 _ [gm_vi 0] n K R _ Q
              have j56 : ¬ tx_k (M 231) e ((g_sum (M 231) e 400 b).2) = 60 := j56
              have q59 : tx_g (M 231) e ((g_sum (M 231) e 400 b).2) = (g_sum (M 231) e 400 b).2 := by rw [← q51]; exact tx_gi q51b.2
              have j59p := (tx_gb (f := M 231) q51b.2).1
              rw [q51] at j59p
              refine gm_sz (gm_p_stor (pc := 170) (i := .istore_n 2) (sr := 0) (j := 2) (by decide +kernel) rfl (show 3 ≤ _ from Nat.le_of_ble_eq_true rfl) rfl) ?_
              refine gm_sz (gm_p_load (pc := 171) (i := .iload_n 2) (sr := 0) (j := 2) (by decide +kernel) rfl rfl rfl) ?_
              refine fw_iffd (cc := .ne) (pc := 172) (off := 12) (by decide +kernel) (by decide) ⟨by decide, by decide⟩ (by decide) ?_
              refine gm_sz (gm_p_load (pc := 175) (i := .aload_n 0) (sr := 2) (j := 0) (by decide +kernel) rfl rfl rfl) ?_
              refine gm_sz (gm_p_const (pc := 176) (i := .bipush 62) (v := gm_vi 62) (by decide +kernel) (by decide +kernel)) ?_
              refine gm_c_virt (k := 226) (ci := 11) (mj := 278) (ix := 248) (pc := 178) (as := [gm_vi 62]) (st := []) (d' := d - 1) (bc' := 0) (bs' := 0) (by decide +kernel) (by decide +kernel) (by decide +kernel) (by decide +kernel) (tR226 hE).1 (tR226 hE).2 (by decide) (by decide +kernel) (show 1 = gm_na 278 by decide +kernel) (fw_c1 fw_si) (show 2 ≤ gm_ml 278 by decide +kernel) (Nat.le_of_ble_eq_true rfl) (by omega) (Nat.zero_le _) (Nat.zero_le _) ?_
              refine tr_c278 (by omega) hE (by decide) g52 q59 (fun j71 => ?_) (fun j71 => ?_)
              · show gm_Wp X LX d _ _ 277 181 _ [gm_vi 1] n K R _ Q
                have j71 : tx_k (M 231) e ((g_sum (M 231) e 400 b).2) = 62 := j71
                have g72 : 0 ≤ tx_s (M 231) e ((g_sum (M 231) e 400 b).2) ∧ tx_s (M 231) e ((g_sum (M 231) e 400 b).2) ≤ e := by have := tx_sb (f := M 231) g52.2; have := g52.1; omega
                have g73 : 0 ≤ tx_n (M 231) e ((g_sum (M 231) e 400 b).2) ∧ tx_n (M 231) e ((g_sum (M 231) e 400 b).2) ≤ e := by have := tx_gb (f := M 231) g72.2; have := g72.1; have h9 : tx_n (M 231) e ((g_sum (M 231) e 400 b).2) = tx_g (M 231) e (tx_s (M 231) e ((g_sum (M 231) e 400 b).2)) := rfl; omega
                have j71s := (tx_sb (f := M 231) g52.2).2.2 (tx_kne (f := M 231) (by omega))
                have j71p := (tx_gb (f := M 231) g52.2).1
                rw [q59] at j71p
                refine fw_iffd (cc := .eq) (pc := 181) (off := 10) (by decide +kernel) (by decide) ⟨by decide, by decide⟩ (by decide) ?_
                refine gm_sz (gm_p_load (pc := 184) (i := .aload_n 0) (sr := 2) (j := 0) (by decide +kernel) rfl rfl rfl) ?_
                refine gm_c_virt (k := 226) (ci := 11) (mj := 280) (ix := 265) (pc := 185) (as := []) (st := []) (d' := d - 1) (bc' := 0) (bs' := 0) (by decide +kernel) (by decide +kernel) (by decide +kernel) (by decide +kernel) (tR226 hE).1 (tR226 hE).2 (by decide) (by decide +kernel) (show 0 = gm_na 280 by decide +kernel) fw_c0 (show 1 ≤ gm_ml 280 by decide +kernel) (Nat.le_of_ble_eq_true rfl) (by omega) (Nat.zero_le _) (Nat.zero_le _) ?_
                refine tr_c280 hE _ _ _ _ _ _ _ _ _ (by omega) g72 rfl ⟨by omega, by omega⟩ (fun p75 x76 s77 W78 j79 q80b q80 t82 => ?_) (fun p75 x84 s77 W78 j79 => ?_)
                · show gm_Wp X LX d _ _ 277 188 _ [gm_vi 1] n K R _ Q
                  have j79 : (g_sum (M 231) e 400 (tx_n (M 231) e ((g_sum (M 231) e 400 b).2))).1 = true := j79
                  have q80 : tx_g (M 231) e p75 = (g_sum (M 231) e 400 (tx_n (M 231) e ((g_sum (M 231) e 400 b).2))).2 := q80
                  have g81 : 0 ≤ (g_sum (M 231) e 400 (tx_n (M 231) e ((g_sum (M 231) e 400 b).2))).2 ∧ (g_sum (M 231) e 400 (tx_n (M 231) e ((g_sum (M 231) e 400 b).2))).2 ≤ e := by have := g_sum_in (f := M 231) 400 (tx_n (M 231) e ((g_sum (M 231) e 400 b).2)) g73.1 g73.2; have := g73.1; omega
                  have i83 := (g_sum_in (f := M 231) 400 (tx_n (M 231) e ((g_sum (M 231) e 400 b).2)) g73.1 g73.2)
                  have i83 := i83.2.2 j79
                  refine fw_iftd (cc := .ne) (pc := 188) (off := 5) (by decide +kernel) (by decide) ⟨by decide, by decide⟩ (by decide) ?_
                  refine gm_sz (gm_p_load (pc := 193) (i := .aload_n 0) (sr := 2) (j := 0) (by decide +kernel) rfl rfl rfl) ?_
                  refine gm_sz (gm_p_load (pc := 194) (i := .iload_n 2) (sr := 0) (j := 2) (by decide +kernel) rfl rfl rfl) ?_
                  refine fw_iftd (cc := .eq) (pc := 195) (off := 8) (by decide +kernel) (by decide) ⟨by decide, by decide⟩ (by decide) ?_
                  refine gm_sz (gm_p_const (pc := 203) (i := .bipush 13) (v := gm_vi 13) (by decide +kernel) (by decide +kernel)) ?_
                  refine gm_sz (gm_p_const (pc := 205) (i := .iconst 0) (v := gm_vi 0) (by decide +kernel) (by decide +kernel)) ?_
                  refine gm_c_virt (k := 226) (ci := 11) (mj := 279) (ix := 227) (pc := 206) (as := [gm_vi 13, gm_vi 0]) (st := []) (d' := d - 1) (bc' := 0) (bs' := 0) (by decide +kernel) (by decide +kernel) (by decide +kernel) (by decide +kernel) (tR226 hE).1 (tR226 hE).2 (by decide) (by decide +kernel) (show 2 = gm_na 279 by decide +kernel) (fw_c2 fw_si fw_si) (show 3 ≤ gm_ml 279 by decide +kernel) (Nat.le_of_ble_eq_true rfl) (by omega) (Nat.zero_le _) (Nat.zero_le _) ?_
                  refine tr_c279 hE ⟨by omega, by omega⟩ (fun W85 => ?_)
                  show gm_Wp X LX d _ _ 277 209 _ [] n K R _ Q
                  refine gm_sz (gm_p_const (pc := 209) (i := .iconst 1) (v := gm_vi 1) (by decide +kernel) (by decide +kernel)) ?_
                  rw [g_a8 j20 j1 j36 j41 j50 (by omega)] at h1
                  exact gm_r_int (pc := 210) (by decide +kernel) (Or.inr ⟨(by decide +kernel), Or.inr rfl⟩) (h1 _ _ _ _ j79 q80b q80 ⟨by omega, by omega, by omega⟩)
                · show gm_Wp X LX d _ _ 277 188 _ [gm_vi 0] n K R _ Q
                  have j79 : ¬ (g_sum (M 231) e 400 (tx_n (M 231) e ((g_sum (M 231) e 400 b).2))).1 = true := j79
                  have g81 : 0 ≤ (g_sum (M 231) e 400 (tx_n (M 231) e ((g_sum (M 231) e 400 b).2))).2 ∧ (g_sum (M 231) e 400 (tx_n (M 231) e ((g_sum (M 231) e 400 b).2))).2 ≤ e := by have := g_sum_in (f := M 231) 400 (tx_n (M 231) e ((g_sum (M 231) e 400 b).2)) g73.1 g73.2; have := g73.1; omega
                  refine fw_iffd (cc := .ne) (pc := 188) (off := 5) (by decide +kernel) (by decide) ⟨by decide, by decide⟩ (by decide) ?_
                  refine gm_sz (gm_p_const (pc := 191) (i := .iconst 0) (v := gm_vi 0) (by decide +kernel) (by decide +kernel)) ?_
                  rw [g_a8 j20 j1 j36 j41 j50 (by omega)] at h0
                  exact gm_r_int (pc := 192) (by decide +kernel) (Or.inr ⟨(by decide +kernel), Or.inl rfl⟩) (h0 _ _ _ _ j79)
              · show gm_Wp X LX d _ _ 277 181 _ [gm_vi 0] n K R _ Q
                have j71 : ¬ tx_k (M 231) e ((g_sum (M 231) e 400 b).2) = 62 := j71
                have q74 : tx_g (M 231) e ((g_sum (M 231) e 400 b).2) = (g_sum (M 231) e 400 b).2 := by rw [← q59]; exact tx_gi g52.2
                refine fw_iftd (cc := .eq) (pc := 181) (off := 10) (by decide +kernel) (by decide) ⟨by decide, by decide⟩ (by decide) ?_
                refine gm_sz (gm_p_const (pc := 191) (i := .iconst 0) (v := gm_vi 0) (by decide +kernel) (by decide +kernel)) ?_
                rw [g_a7 j20 j1 j36 j41 j50 (by omega)] at h0
                exact gm_r_int (pc := 192) (by decide +kernel) (Or.inr ⟨(by decide +kernel), Or.inl rfl⟩) (h0 _ _ _ _ (fun h => by cases h))
          · show gm_Wp X LX d _ _ 277 159 _ [gm_vi 0] n K R _ Q
            have j50 : ¬ (g_sum (M 231) e 400 b).1 = true := j50
            have g52 : 0 ≤ (g_sum (M 231) e 400 b).2 ∧ (g_sum (M 231) e 400 b).2 ≤ e := by have := g_sum_in (f := M 231) 400 b hb.1 hb.2; have := hb.1; omega
            refine fw_iffd (cc := .ne) (pc := 159) (off := 5) (by decide +kernel) (by decide) ⟨by decide, by decide⟩ (by decide) ?_
            refine gm_sz (gm_p_const (pc := 162) (i := .iconst 0) (v := gm_vi 0) (by decide +kernel) (by decide +kernel)) ?_
            rw [g_a6 j20 j1 j36 j41 j50] at h0
            exact gm_r_int (pc := 163) (by decide +kernel) (Or.inr ⟨(by decide +kernel), Or.inl rfl⟩) (h0 _ _ _ _ j50)
theorem tr_s276 {A : Int → Bool × Int} {dA : Nat} (hA : cR X LX n K R M e dp 277 A dA) (iA : g_in e A) (hd : 7 ≤ d ∧ dA + 1 ≤ d) (hE : tR n K R M e) : ∀ (t : Nat) (pt c bg st : Int) (W : Int → Int) (Q : gm_Q), e - c < 2 * (t : Int) → 0 ≤ pt ∧ pt ≤ e → tx_g (M 231) e pt = c → 0 ≤ st ∧ st + 1 ≤ pt → (∀ p2 bg2 st2 W2, (g_am (M 231) e A t c).1 = true → 0 ≤ p2 ∧ p2 ≤ e → tx_g (M 231) e p2 = (g_am (M 231) e A t c).2 → 0 ≤ st2 ∧ st2 - st ≤ p2 - pt ∧ pt ≤ p2 → Q (.inl (some (gm_vi 1))) n K R (rm M p2 bg2 dp st2 W2)) → (∀ p2 dp2 st2 W2, ¬ (g_am (M 231) e A t c).1 = true → Q (.inl (some (gm_vi 0))) n K R (rm M p2 (g_am (M 231) e A t c).2 dp2 st2 W2)) → gm_Wp X LX d bc bs 276 9 [some (gm_vr 226)] [] n K R (rm M pt bg dp st W) Q := by
  obtain ⟨-, he0, he4⟩ := tRe hE
  intro t
  induction t with
  | zero =>
    intro pt c bg st W Q ht hp hg hst h1 h0
    obtain ⟨hg1, hg2, -⟩ := tx_gb (f := M 231) hp.2
    rw [hg] at hg1 hg2
    exact absurd ht (by omega)
  | succ t ih =>
    intro pt c bg st W Q ht hp hg hst h1 h0
    obtain ⟨hg1, hg2, -⟩ := tx_gb (f := M 231) hp.2
    rw [hg] at hg1 hg2
    have hb : 0 ≤ c ∧ c ≤ e := ⟨by omega, hg2⟩
    obtain ⟨hn1, hn2, hn3⟩ := tx_nb (f := M 231) hb.2
    refine gm_sz (gm_p_load (pc := 9) (i := .aload_n 0) (sr := 2) (j := 0) (by decide +kernel) rfl rfl rfl) ?_
    refine gm_sz (gm_p_ldcs (pc := 10) (i := .ldc_w 268) (ix := 268) (id := 73) (by decide +kernel) (Or.inr rfl) (by decide +kernel)) ?_
    refine gm_c_virt (k := 226) (ci := 11) (mj := 269) (ix := 170) (pc := 13) (as := [gm_vo 73]) (st := []) (d' := d - 1) (bc' := 0) (bs' := 0) (by decide +kernel) (by decide +kernel) (by decide +kernel) (by decide +kernel) (tR226 hE).1 (tR226 hE).2 (by decide) (by decide +kernel) (show 1 = gm_na 269 by decide +kernel) (fw_c1 fw_so) (show 2 ≤ gm_ml 269 by decide +kernel) (Nat.le_of_ble_eq_true rfl) (by omega) (Nat.zero_le _) (Nat.zero_le _) ?_
    refine tr_c269 (by omega) hE (by decide) (show tx_o 73 = wo_and by decide +kernel) (by decide) hp hg (fun j1 => ?_) (fun j1 => ?_)
    · show gm_Wp X LX d _ _ 276 16 _ [gm_vi 1] n K R _ Q
      have j1 : tx_is (M 231) e c wo_and := j1
      have g2 : 0 ≤ tx_s (M 231) e c ∧ tx_s (M 231) e c ≤ e := by have := tx_sb (f := M 231) hb.2; have := hb.1; omega
      have g3 : 0 ≤ tx_n (M 231) e c ∧ tx_n (M 231) e c ≤ e := by have := tx_gb (f := M 231) g2.2; have := g2.1; unfold tx_n; omega
      have j1s := (tx_sb (f := M 231) hb.2).2.2 (g_isb j1)
      have j1p := (tx_gb (f := M 231) hp.2).1
      rw [hg] at j1p
      refine fw_iffd (cc := .eq) (pc := 16) (off := 22) (by decide +kernel) (by decide) ⟨by decide, by decide⟩ (by decide) ?_
      refine gm_sz (gm_p_load (pc := 19) (i := .aload_n 0) (sr := 2) (j := 0) (by decide +kernel) rfl rfl rfl) ?_
      refine gm_c_virt (k := 226) (ci := 11) (mj := 277) (ix := 258) (pc := 20) (as := []) (st := []) (d' := d - 1) (bc' := 0) (bs' := 0) (by decide +kernel) (by decide +kernel) (by decide +kernel) (by decide +kernel) (tR226 hE).1 (tR226 hE).2 (by decide) (by decide +kernel) (show 0 = gm_na 277 by decide +kernel) fw_c0 (show 1 ≤ gm_ml 277 by decide +kernel) (Nat.le_of_ble_eq_true rfl) (by omega) (Nat.zero_le _) (Nat.zero_le _) ?_
      refine hA _ _ _ _ _ _ _ _ _ (by omega) g2 rfl ⟨by omega, by omega⟩ (fun p5 x6 s7 W8 j9 q10b q10 t12 => ?_) (fun p5 x14 s7 W8 j9 => ?_)
      · show gm_Wp X LX d _ _ 276 23 _ [gm_vi 1] n K R _ Q
        have j9 : (A (tx_n (M 231) e c)).1 = true := j9
        have q10 : tx_g (M 231) e p5 = (A (tx_n (M 231) e c)).2 := q10
        have g11 : 0 ≤ (A (tx_n (M 231) e c)).2 ∧ (A (tx_n (M 231) e c)).2 ≤ e := by have := iA (tx_n (M 231) e c) g3.1 g3.2; have := g3.1; omega
        have i13 := (iA (tx_n (M 231) e c) g3.1 g3.2)
        have i13 := i13.2.2 j9
        refine fw_iftd (cc := .ne) (pc := 23) (off := 5) (by decide +kernel) (by decide) ⟨by decide, by decide⟩ (by decide) ?_
        refine gm_sz (gm_p_load (pc := 28) (i := .aload_n 0) (sr := 2) (j := 0) (by decide +kernel) rfl rfl rfl) ?_
        refine gm_sz (gm_p_const (pc := 29) (i := .bipush 15) (v := gm_vi 15) (by decide +kernel) (by decide +kernel)) ?_
        refine gm_sz (gm_p_const (pc := 31) (i := .iconst 0) (v := gm_vi 0) (by decide +kernel) (by decide +kernel)) ?_
        refine gm_c_virt (k := 226) (ci := 11) (mj := 279) (ix := 227) (pc := 32) (as := [gm_vi 15, gm_vi 0]) (st := []) (d' := d - 1) (bc' := 0) (bs' := 0) (by decide +kernel) (by decide +kernel) (by decide +kernel) (by decide +kernel) (tR226 hE).1 (tR226 hE).2 (by decide) (by decide +kernel) (show 2 = gm_na 279 by decide +kernel) (fw_c2 fw_si fw_si) (show 3 ≤ gm_ml 279 by decide +kernel) (Nat.le_of_ble_eq_true rfl) (by omega) (Nat.zero_le _) (Nat.zero_le _) ?_
        refine tr_c279 hE ⟨by omega, by omega⟩ (fun W15 => ?_)
        show gm_Wp X LX d _ _ 276 35 _ [] n K R _ Q
        refine gm_sz (gm_p_goto (pc := 35) (off := (-26)) (by decide +kernel) (by decide)) ?_
        rw [g_am2 j1 j9] at h1 h0
        refine ih _ _ _ _ _ _ (by omega) q10b q10 ⟨by omega, by omega⟩ (fun p2 bg2 st2 W2 r1 r2 r3 r4 => h1 p2 bg2 st2 W2 r1 r2 r3 ⟨by omega, by omega, by omega⟩) h0
      · show gm_Wp X LX d _ _ 276 23 _ [gm_vi 0] n K R _ Q
        have j9 : ¬ (A (tx_n (M 231) e c)).1 = true := j9
        have g11 : 0 ≤ (A (tx_n (M 231) e c)).2 ∧ (A (tx_n (M 231) e c)).2 ≤ e := by have := iA (tx_n (M 231) e c) g3.1 g3.2; have := g3.1; omega
        refine fw_iffd (cc := .ne) (pc := 23) (off := 5) (by decide +kernel) (by decide) ⟨by decide, by decide⟩ (by decide) ?_
        refine gm_sz (gm_p_const (pc := 26) (i := .iconst 0) (v := gm_vi 0) (by decide +kernel) (by decide +kernel)) ?_
        rw [g_am1 j1 j9] at h0
        exact gm_r_int (pc := 27) (by decide +kernel) (Or.inr ⟨(by decide +kernel), Or.inl rfl⟩) (h0 _ _ _ _ j9)
    · show gm_Wp X LX d _ _ 276 16 _ [gm_vi 0] n K R _ Q
      have j1 : ¬ tx_is (M 231) e c wo_and := j1
      have q4 : tx_g (M 231) e c = c := by rw [← hg]; exact tx_gi hp.2
      refine fw_iftd (cc := .eq) (pc := 16) (off := 22) (by decide +kernel) (by decide) ⟨by decide, by decide⟩ (by decide) ?_
      refine gm_sz (gm_p_const (pc := 38) (i := .iconst 1) (v := gm_vi 1) (by decide +kernel) (by decide +kernel)) ?_
      rw [g_am0 j1] at h1
      exact gm_r_int (pc := 39) (by decide +kernel) (Or.inr ⟨(by decide +kernel), Or.inr rfl⟩) (h1 _ _ _ _ rfl hb q4 ⟨by omega, by omega, by omega⟩)
theorem tr_c276 {A : Int → Bool × Int} {dA dn : Nat} (hA : cR X LX n K R M e dp 277 A dA) (iA : g_in e A) (hd9 : 7 ≤ dn ∧ dA + 1 ≤ dn) (hE : tR n K R M e) : cR X LX n K R M e dp 276 (g_all (M 231) e A 400) dn := by
  obtain ⟨-, he0, he4⟩ := tRe hE
  intro d bc bs pt b bg st W Q hd hp hg hst h1 h0
  obtain ⟨hg1, hg2, -⟩ := tx_gb (f := M 231) hp.2
  rw [hg] at hg1 hg2
  have hb : 0 ≤ b ∧ b ≤ e := ⟨by omega, hg2⟩
  refine gm_sz (gm_p_load (pc := 0) (i := .aload_n 0) (sr := 2) (j := 0) (by decide +kernel) rfl rfl rfl) ?_
  refine gm_c_virt (k := 226) (ci := 11) (mj := 277) (ix := 258) (pc := 1) (as := []) (st := []) (d' := d - 1) (bc' := 0) (bs' := 0) (by decide +kernel) (by decide +kernel) (by decide +kernel) (by decide +kernel) (tR226 hE).1 (tR226 hE).2 (by decide) (by decide +kernel) (show 0 = gm_na 277 by decide +kernel) fw_c0 (show 1 ≤ gm_ml 277 by decide +kernel) (Nat.le_of_ble_eq_true rfl) (by omega) (Nat.zero_le _) (Nat.zero_le _) ?_
  refine hA _ _ _ _ _ _ _ _ _ (by omega) hp hg ⟨by omega, by omega⟩ (fun p1 x2 s3 W4 j5 q6b q6 t8 => ?_) (fun p1 x10 s3 W4 j5 => ?_)
  · show gm_Wp X LX d _ _ 276 4 _ [gm_vi 1] n K R _ Q
    have j5 : (A b).1 = true := j5
    have q6 : tx_g (M 231) e p1 = (A b).2 := q6
    have g7 : 0 ≤ (A b).2 ∧ (A b).2 ≤ e := by have := iA b hb.1 hb.2; have := hb.1; omega
    have i9 := (iA b hb.1 hb.2)
    have i9 := i9.2.2 j5
    refine fw_iftd (cc := .ne) (pc := 4) (off := 5) (by decide +kernel) (by decide) ⟨by decide, by decide⟩ (by decide) ?_
    rw [g_ame (t := 399) j5] at h1 h0
    exact tr_s276 hA iA ⟨by omega, by omega⟩ hE 399 _ _ _ _ _ _ (by omega) q6b q6 ⟨by omega, by omega⟩ (fun p2 bg2 st2 W2 r1 r2 r3 r4 => h1 p2 bg2 st2 W2 r1 r2 r3 ⟨by omega, by omega, by omega⟩) h0
  · show gm_Wp X LX d _ _ 276 4 _ [gm_vi 0] n K R _ Q
    have j5 : ¬ (A b).1 = true := j5
    have g7 : 0 ≤ (A b).2 ∧ (A b).2 ≤ e := by have := iA b hb.1 hb.2; have := hb.1; omega
    refine fw_iffd (cc := .ne) (pc := 4) (off := 5) (by decide +kernel) (by decide) ⟨by decide, by decide⟩ (by decide) ?_
    refine gm_sz (gm_p_const (pc := 7) (i := .iconst 0) (v := gm_vi 0) (by decide +kernel) (by decide +kernel)) ?_
    rw [g_l0 (t := 399) j5] at h0
    exact gm_r_int (pc := 8) (by decide +kernel) (Or.inr ⟨(by decide +kernel), Or.inl rfl⟩) (h0 _ _ _ _ j5)
theorem g_all4 {A : Int → Bool × Int} (iA : g_in e A) : g_in e (g_all (M 231) e A 400) := fun b h0 h1 => by
  obtain ⟨a, b2, c⟩ := g_all_in (f := M 231) iA 400 b h0 h1
  exact ⟨a, b2, c (by decide)⟩
theorem tr_s275 {A : Int → Bool × Int} {dA : Nat} (hA : cR X LX n K R M e dp 276 (g_all (M 231) e A 400) dA) (iA : g_in e A) (hd : 7 ≤ d ∧ dA + 1 ≤ d) (hE : tR n K R M e) : ∀ (t : Nat) (pt c bg st : Int) (W : Int → Int) (Q : gm_Q), e - c < 2 * (t : Int) → 0 ≤ pt ∧ pt ≤ e → tx_g (M 231) e pt = c → 0 ≤ st ∧ st + 1 ≤ pt → (∀ p2 bg2 st2 W2, (g_cm (M 231) e A t c).1 = true → 0 ≤ p2 ∧ p2 ≤ e → tx_g (M 231) e p2 = (g_cm (M 231) e A t c).2 → 0 ≤ st2 ∧ st2 - st ≤ p2 - pt ∧ pt ≤ p2 → Q (.inl (some (gm_vi 1))) n K R (rm M p2 bg2 dp st2 W2)) → (∀ p2 dp2 st2 W2, ¬ (g_cm (M 231) e A t c).1 = true → Q (.inl (some (gm_vi 0))) n K R (rm M p2 (g_cm (M 231) e A t c).2 dp2 st2 W2)) → gm_Wp X LX d bc bs 275 9 [some (gm_vr 226)] [] n K R (rm M pt bg dp st W) Q := by
  obtain ⟨-, he0, he4⟩ := tRe hE
  intro t
  induction t with
  | zero =>
    intro pt c bg st W Q ht hp hg hst h1 h0
    obtain ⟨hg1, hg2, -⟩ := tx_gb (f := M 231) hp.2
    rw [hg] at hg1 hg2
    exact absurd ht (by omega)
  | succ t ih =>
    intro pt c bg st W Q ht hp hg hst h1 h0
    obtain ⟨hg1, hg2, -⟩ := tx_gb (f := M 231) hp.2
    rw [hg] at hg1 hg2
    have hb : 0 ≤ c ∧ c ≤ e := ⟨by omega, hg2⟩
    obtain ⟨hn1, hn2, hn3⟩ := tx_nb (f := M 231) hb.2
    refine gm_sz (gm_p_load (pc := 9) (i := .aload_n 0) (sr := 2) (j := 0) (by decide +kernel) rfl rfl rfl) ?_
    refine gm_sz (gm_p_ldcs (pc := 10) (i := .ldc_w 273) (ix := 273) (id := 74) (by decide +kernel) (Or.inr rfl) (by decide +kernel)) ?_
    refine gm_c_virt (k := 226) (ci := 11) (mj := 269) (ix := 170) (pc := 13) (as := [gm_vo 74]) (st := []) (d' := d - 1) (bc' := 0) (bs' := 0) (by decide +kernel) (by decide +kernel) (by decide +kernel) (by decide +kernel) (tR226 hE).1 (tR226 hE).2 (by decide) (by decide +kernel) (show 1 = gm_na 269 by decide +kernel) (fw_c1 fw_so) (show 2 ≤ gm_ml 269 by decide +kernel) (Nat.le_of_ble_eq_true rfl) (by omega) (Nat.zero_le _) (Nat.zero_le _) ?_
    refine tr_c269 (by omega) hE (by decide) (show tx_o 74 = wo_or by decide +kernel) (by decide) hp hg (fun j1 => ?_) (fun j1 => ?_)
    · show gm_Wp X LX d _ _ 275 16 _ [gm_vi 1] n K R _ Q
      have j1 : tx_is (M 231) e c wo_or := j1
      have g2 : 0 ≤ tx_s (M 231) e c ∧ tx_s (M 231) e c ≤ e := by have := tx_sb (f := M 231) hb.2; have := hb.1; omega
      have g3 : 0 ≤ tx_n (M 231) e c ∧ tx_n (M 231) e c ≤ e := by have := tx_gb (f := M 231) g2.2; have := g2.1; unfold tx_n; omega
      have j1s := (tx_sb (f := M 231) hb.2).2.2 (g_isb j1)
      have j1p := (tx_gb (f := M 231) hp.2).1
      rw [hg] at j1p
      refine fw_iffd (cc := .eq) (pc := 16) (off := 22) (by decide +kernel) (by decide) ⟨by decide, by decide⟩ (by decide) ?_
      refine gm_sz (gm_p_load (pc := 19) (i := .aload_n 0) (sr := 2) (j := 0) (by decide +kernel) rfl rfl rfl) ?_
      refine gm_c_virt (k := 226) (ci := 11) (mj := 276) (ix := 270) (pc := 20) (as := []) (st := []) (d' := d - 1) (bc' := 0) (bs' := 0) (by decide +kernel) (by decide +kernel) (by decide +kernel) (by decide +kernel) (tR226 hE).1 (tR226 hE).2 (by decide) (by decide +kernel) (show 0 = gm_na 276 by decide +kernel) fw_c0 (show 1 ≤ gm_ml 276 by decide +kernel) (Nat.le_of_ble_eq_true rfl) (by omega) (Nat.zero_le _) (Nat.zero_le _) ?_
      refine hA _ _ _ _ _ _ _ _ _ (by omega) g2 rfl ⟨by omega, by omega⟩ (fun p5 x6 s7 W8 j9 q10b q10 t12 => ?_) (fun p5 x14 s7 W8 j9 => ?_)
      · show gm_Wp X LX d _ _ 275 23 _ [gm_vi 1] n K R _ Q
        have j9 : (g_all (M 231) e A 400 (tx_n (M 231) e c)).1 = true := j9
        have q10 : tx_g (M 231) e p5 = (g_all (M 231) e A 400 (tx_n (M 231) e c)).2 := q10
        have g11 : 0 ≤ (g_all (M 231) e A 400 (tx_n (M 231) e c)).2 ∧ (g_all (M 231) e A 400 (tx_n (M 231) e c)).2 ≤ e := by have := g_all4 (M := M) iA (tx_n (M 231) e c) g3.1 g3.2; have := g3.1; omega
        have i13 := (g_all4 (M := M) iA (tx_n (M 231) e c) g3.1 g3.2)
        have i13 := i13.2.2 j9
        refine fw_iftd (cc := .ne) (pc := 23) (off := 5) (by decide +kernel) (by decide) ⟨by decide, by decide⟩ (by decide) ?_
        refine gm_sz (gm_p_load (pc := 28) (i := .aload_n 0) (sr := 2) (j := 0) (by decide +kernel) rfl rfl rfl) ?_
        refine gm_sz (gm_p_const (pc := 29) (i := .bipush 16) (v := gm_vi 16) (by decide +kernel) (by decide +kernel)) ?_
        refine gm_sz (gm_p_const (pc := 31) (i := .iconst 0) (v := gm_vi 0) (by decide +kernel) (by decide +kernel)) ?_
        refine gm_c_virt (k := 226) (ci := 11) (mj := 279) (ix := 227) (pc := 32) (as := [gm_vi 16, gm_vi 0]) (st := []) (d' := d - 1) (bc' := 0) (bs' := 0) (by decide +kernel) (by decide +kernel) (by decide +kernel) (by decide +kernel) (tR226 hE).1 (tR226 hE).2 (by decide) (by decide +kernel) (show 2 = gm_na 279 by decide +kernel) (fw_c2 fw_si fw_si) (show 3 ≤ gm_ml 279 by decide +kernel) (Nat.le_of_ble_eq_true rfl) (by omega) (Nat.zero_le _) (Nat.zero_le _) ?_
        refine tr_c279 hE ⟨by omega, by omega⟩ (fun W15 => ?_)
        show gm_Wp X LX d _ _ 275 35 _ [] n K R _ Q
        refine gm_sz (gm_p_goto (pc := 35) (off := (-26)) (by decide +kernel) (by decide)) ?_
        rw [g_cm2 j1 j9] at h1 h0
        refine ih _ _ _ _ _ _ (by omega) q10b q10 ⟨by omega, by omega⟩ (fun p2 bg2 st2 W2 r1 r2 r3 r4 => h1 p2 bg2 st2 W2 r1 r2 r3 ⟨by omega, by omega, by omega⟩) h0
      · show gm_Wp X LX d _ _ 275 23 _ [gm_vi 0] n K R _ Q
        have j9 : ¬ (g_all (M 231) e A 400 (tx_n (M 231) e c)).1 = true := j9
        have g11 : 0 ≤ (g_all (M 231) e A 400 (tx_n (M 231) e c)).2 ∧ (g_all (M 231) e A 400 (tx_n (M 231) e c)).2 ≤ e := by have := g_all4 (M := M) iA (tx_n (M 231) e c) g3.1 g3.2; have := g3.1; omega
        refine fw_iffd (cc := .ne) (pc := 23) (off := 5) (by decide +kernel) (by decide) ⟨by decide, by decide⟩ (by decide) ?_
        refine gm_sz (gm_p_const (pc := 26) (i := .iconst 0) (v := gm_vi 0) (by decide +kernel) (by decide +kernel)) ?_
        rw [g_cm1 j1 j9] at h0
        exact gm_r_int (pc := 27) (by decide +kernel) (Or.inr ⟨(by decide +kernel), Or.inl rfl⟩) (h0 _ _ _ _ j9)
    · show gm_Wp X LX d _ _ 275 16 _ [gm_vi 0] n K R _ Q
      have j1 : ¬ tx_is (M 231) e c wo_or := j1
      have q4 : tx_g (M 231) e c = c := by rw [← hg]; exact tx_gi hp.2
      refine fw_iftd (cc := .eq) (pc := 16) (off := 22) (by decide +kernel) (by decide) ⟨by decide, by decide⟩ (by decide) ?_
      refine gm_sz (gm_p_const (pc := 38) (i := .iconst 1) (v := gm_vi 1) (by decide +kernel) (by decide +kernel)) ?_
      rw [g_cm0 j1] at h1
      exact gm_r_int (pc := 39) (by decide +kernel) (Or.inr ⟨(by decide +kernel), Or.inr rfl⟩) (h1 _ _ _ _ rfl hb q4 ⟨by omega, by omega, by omega⟩)
theorem tr_c275 {A : Int → Bool × Int} {dA dn : Nat} (hA : cR X LX n K R M e dp 276 (g_all (M 231) e A 400) dA) (iA : g_in e A) (hd9 : 7 ≤ dn ∧ dA + 1 ≤ dn) (hE : tR n K R M e) : cR X LX n K R M e dp 275 (g_cnd (M 231) e A 400) dn := by
  obtain ⟨-, he0, he4⟩ := tRe hE
  intro d bc bs pt b bg st W Q hd hp hg hst h1 h0
  obtain ⟨hg1, hg2, -⟩ := tx_gb (f := M 231) hp.2
  rw [hg] at hg1 hg2
  have hb : 0 ≤ b ∧ b ≤ e := ⟨by omega, hg2⟩
  refine gm_sz (gm_p_load (pc := 0) (i := .aload_n 0) (sr := 2) (j := 0) (by decide +kernel) rfl rfl rfl) ?_
  refine gm_c_virt (k := 226) (ci := 11) (mj := 276) (ix := 270) (pc := 1) (as := []) (st := []) (d' := d - 1) (bc' := 0) (bs' := 0) (by decide +kernel) (by decide +kernel) (by decide +kernel) (by decide +kernel) (tR226 hE).1 (tR226 hE).2 (by decide) (by decide +kernel) (show 0 = gm_na 276 by decide +kernel) fw_c0 (show 1 ≤ gm_ml 276 by decide +kernel) (Nat.le_of_ble_eq_true rfl) (by omega) (Nat.zero_le _) (Nat.zero_le _) ?_
  refine hA _ _ _ _ _ _ _ _ _ (by omega) hp hg ⟨by omega, by omega⟩ (fun p1 x2 s3 W4 j5 q6b q6 t8 => ?_) (fun p1 x10 s3 W4 j5 => ?_)
  · show gm_Wp X LX d _ _ 275 4 _ [gm_vi 1] n K R _ Q
    have j5 : (g_all (M 231) e A 400 b).1 = true := j5
    have q6 : tx_g (M 231) e p1 = (g_all (M 231) e A 400 b).2 := q6
    have g7 : 0 ≤ (g_all (M 231) e A 400 b).2 ∧ (g_all (M 231) e A 400 b).2 ≤ e := by have := g_all4 (M := M) iA b hb.1 hb.2; have := hb.1; omega
    have i9 := (g_all4 (M := M) iA b hb.1 hb.2)
    have i9 := i9.2.2 j5
    refine fw_iftd (cc := .ne) (pc := 4) (off := 5) (by decide +kernel) (by decide) ⟨by decide, by decide⟩ (by decide) ?_
    rw [g_cme (t := 399) j5] at h1 h0
    exact tr_s275 hA iA ⟨by omega, by omega⟩ hE 399 _ _ _ _ _ _ (by omega) q6b q6 ⟨by omega, by omega⟩ (fun p2 bg2 st2 W2 r1 r2 r3 r4 => h1 p2 bg2 st2 W2 r1 r2 r3 ⟨by omega, by omega, by omega⟩) h0
  · show gm_Wp X LX d _ _ 275 4 _ [gm_vi 0] n K R _ Q
    have j5 : ¬ (g_all (M 231) e A 400 b).1 = true := j5
    have g7 : 0 ≤ (g_all (M 231) e A 400 b).2 ∧ (g_all (M 231) e A 400 b).2 ≤ e := by have := g_all4 (M := M) iA b hb.1 hb.2; have := hb.1; omega
    refine fw_iffd (cc := .ne) (pc := 4) (off := 5) (by decide +kernel) (by decide) ⟨by decide, by decide⟩ (by decide) ?_
    refine gm_sz (gm_p_const (pc := 7) (i := .iconst 0) (v := gm_vi 0) (by decide +kernel) (by decide +kernel)) ?_
    rw [g_d0 (t := 399) j5] at h0
    exact gm_r_int (pc := 8) (by decide +kernel) (Or.inr ⟨(by decide +kernel), Or.inl rfl⟩) (h0 _ _ _ _ j5)
/-- readAtom and readCond, k deep still -/
theorem tr_at (hE : tR n K R M e) : ∀ k : Nat, k ≤ 6 → cR X LX n K R M e (6 - (k : Int)) 277 (g_at (M 231) e k) (10 + 3 * k) := by
  intro k
  induction k with
  | zero => exact fun _ => tr_c277 hE ⟨by decide, by decide⟩ (Iff.intro (fun h => h.elim) (fun h => by omega)) (dA := 0) (dC := 0) (fun h => h.elim) (fun h => h.elim) g_no_in g_no_in ⟨by omega, fun h => h.elim⟩
  | succ k ih =>
    intro hk
    have e1 : (6 : Int) - ((k + 1 : Nat) : Int) + 1 = 6 - (k : Int) := by omega
    refine tr_c277 (dA := 10 + 3 * k) (dC := 12 + 3 * k) hE ⟨by omega, by omega⟩ (Iff.intro (fun _ => by omega) (fun _ => trivial)) (fun _ => ?_) (fun _ => ?_) (g_at_in k) (g_cnd_in (g_at_in k) 400) ⟨by omega, fun _ => by omega⟩
    · rw [e1]
      exact ih (by omega)
    · rw [e1]
      exact tr_c275 (dA := 11 + 3 * k) (tr_c276 (ih (by omega)) (g_at_in k) (by omega) hE) (g_at_in k) (by omega) hE
theorem tr_cd (hE : tR n K R M e) : cR X LX n K R M e 0 275 (g_cd (M 231) e 6) 30 := tr_c275 (dA := 29) (tr_c276 (tr_at hE 6 (by decide)) (g_at_in 6) (by decide) hE) (g_at_in 6) (by decide) hE
end RL
end
