/-! THE REFERENCE'S READER: its memory, what always holds, words (laid by wip/pp/p5r.py). -/
/-- the reader's memory: point, begin, deep, steps; the world -/
def rm (M : gm_M) (pt bg dp st : Int) (W : Int → Int) : gm_M := fun a j => if a = 226 then (if j = 9 then pt else if j = 11 then bg else if j = 12 then dp else if j = 15 then st else M a j) else if a = 227 then W j else M a j
section RM
variable {M : gm_M} {pt bg dp st x j0 : Int} {W : Int → Int}
theorem rm_pt : gm_uM (rm M pt bg dp st W) 226 ((9 : Nat) : Int) x = rm M x bg dp st W := by
  show gm_uM (rm M pt bg dp st W) 226 9 x = rm M x bg dp st W
  funext a j
  by_cases ha : a = 226 <;> by_cases hj : j = 9 <;> simp [gm_uM, rm, ha, hj]
theorem rm_bg : gm_uM (rm M pt bg dp st W) 226 ((11 : Nat) : Int) x = rm M pt x dp st W := by
  show gm_uM (rm M pt bg dp st W) 226 11 x = rm M pt x dp st W
  funext a j
  by_cases ha : a = 226 <;> by_cases hj : j = 11 <;> simp [gm_uM, rm, ha, hj]
theorem rm_dp : gm_uM (rm M pt bg dp st W) 226 ((12 : Nat) : Int) x = rm M pt bg x st W := by
  show gm_uM (rm M pt bg dp st W) 226 12 x = rm M pt bg x st W
  funext a j
  by_cases ha : a = 226 <;> by_cases hj : j = 12 <;> simp [gm_uM, rm, ha, hj]
theorem rm_st : gm_uM (rm M pt bg dp st W) 226 ((15 : Nat) : Int) x = rm M pt bg dp x W := by
  show gm_uM (rm M pt bg dp st W) 226 15 x = rm M pt bg dp x W
  funext a j
  by_cases ha : a = 226 <;> by_cases hj : j = 15 <;> simp [gm_uM, rm, ha, hj]
theorem rm_W : gm_uM (rm M pt bg dp st W) 227 j0 x = rm M pt bg dp st (fun z => if z = j0 then x else W z) := by
  funext a j
  by_cases ha : a = 227 <;> by_cases hj : j = j0 <;> simp [gm_uM, rm, ha, hj]
theorem rm_id : rm M (M 226 9) (M 226 11) (M 226 12) (M 226 15) (M 227) = M := by
  funext a j
  unfold rm
  by_cases h1 : a = 226
  · subst h1
    by_cases g1 : j = 9
    · subst g1; rfl
    by_cases g2 : j = 11
    · subst g2; rfl
    by_cases g3 : j = 12
    · subst g3; rfl
    by_cases g4 : j = 15
    · subst g4; rfl
    rw [if_pos rfl, if_neg g1, if_neg g2, if_neg g3, if_neg g4]
  rw [if_neg h1]
  by_cases h2 : a = 227
  · subst h2; rfl
  rw [if_neg h2]
end RM
/-- what stays while a text is read -/
def tR (n : Nat) (K : gm_K) (R : gm_R) (M : gm_M) (e : Int) : Prop := (((1 ≤ 226 ∧ 226 ≤ n) ∧ K 226 = (15, 0)) ∧ ((1 ≤ 227 ∧ 227 ≤ n) ∧ K 227 = (0, 2093)) ∧ (1 ≤ 231 ∧ 231 ≤ n) ∧ K 231 = (1, 400)) ∧ (R 226 1 = 227 ∧ R 226 7 = 231) ∧ (M 226 10 = e ∧ 0 ≤ e ∧ e ≤ 400) ∧ ∀ j, 0 ≤ j → j < 400 → -128 ≤ M 231 j ∧ M 231 j ≤ 127
section TR
variable {n : Nat} {K : gm_K} {R : gm_R} {M : gm_M} {e : Int}
theorem tR226 (h : tR n K R M e) : (1 ≤ 226 ∧ 226 ≤ n) ∧ (K 226).1 = 11 + 4 := ⟨h.1.1.1, by rw [h.1.1.2]⟩
theorem tR227 (h : tR n K R M e) : (1 ≤ 227 ∧ 227 ≤ n) ∧ K 227 = (0, 2093) := h.1.2.1
theorem tR231 (h : tR n K R M e) : (1 ≤ 231 ∧ 231 ≤ n) ∧ K 231 = (1, 400) := h.1.2.2
theorem tRr (h : tR n K R M e) : R 226 1 = 227 ∧ R 226 7 = 231 := h.2.1
theorem tRe (h : tR n K R M e) : M 226 10 = e ∧ 0 ≤ e ∧ e ≤ 400 := h.2.2.1
theorem tRb (h : tR n K R M e) {j : Int} (h1 : 0 ≤ j) (h2 : j < 400) : -128 ≤ M 231 j ∧ M 231 j ≤ 127 := h.2.2.2 j h1 h2
end TR
section RW
variable {X : Int → Int} {LX d bc bs n : Nat} {K : gm_K} {R : gm_R} {M : gm_M} {Q : gm_Q} {e pt bg dp st lo hi b : Int} {W : Int → Int} {c : Nat} {l : List Int}
theorem tr_c246 (hE : tR n K R M e) (hl : gm_ir lo) (hh : gm_ir hi) (hp : 0 ≤ pt ∧ pt ≤ e) (h1 : pt < e → lo ≤ M 231 pt → M 231 pt ≤ hi → Q (.inl (some (gm_vi 1))) n K R (rm M pt bg dp st W)) (h0 : ¬ (pt < e ∧ lo ≤ M 231 pt ∧ M 231 pt ≤ hi) → Q (.inl (some (gm_vi 0))) n K R (rm M pt bg dp st W)) : gm_Wp X LX d bc bs 246 0 (gm_ent 246 [gm_vr 226, gm_vi lo, gm_vi hi]) [] n K R (rm M pt bg dp st W) Q := by
  obtain ⟨-, he0, he4⟩ := tRe hE
  obtain ⟨hl1, hl2⟩ := hl
  obtain ⟨hh1, hh2⟩ := hh
  refine gm_sz (gm_p_load (pc := 0) (i := .aload_n 0) (sr := 2) (j := 0) (by decide +kernel) rfl rfl rfl) ?_
  refine gm_sz (fw_gi (pc := 1) (ix := 106) (ci := 11) (j := 9) (x := pt) (by decide +kernel) (tR226 hE) (by decide +kernel) (by decide +kernel) rfl) ?_
  refine gm_sz (gm_p_load (pc := 4) (i := .aload_n 0) (sr := 2) (j := 0) (by decide +kernel) rfl rfl rfl) ?_
  refine gm_sz (fw_gi (pc := 5) (ix := 109) (ci := 11) (j := 10) (x := e) (by decide +kernel) (tR226 hE) (by decide +kernel) (by decide +kernel) (tRe hE).1) ?_
  refine fw_ic (cc := .ge) (pc := 8) (off := 33) (by decide +kernel) (by decide) ⟨by omega, by omega⟩ ⟨by omega, by omega⟩ (fun j1 => ?_) (fun j1 => ?_)
  · have j1 : e ≤ pt := j1
    refine gm_sz (gm_p_const (pc := 41) (i := .iconst 0) (v := gm_vi 0) (by decide +kernel) (by decide +kernel)) ?_
    exact gm_r_int (pc := 42) (by decide +kernel) (Or.inr ⟨(by decide +kernel), Or.inl rfl⟩) (h0 (by omega))
  · have j1 : ¬ e ≤ pt := j1
    refine gm_sz (gm_p_load (pc := 11) (i := .aload_n 0) (sr := 2) (j := 0) (by decide +kernel) rfl rfl rfl) ?_
    refine gm_sz (fw_gr (pc := 12) (ix := 26) (ci := 11) (j := 7) (r := 231) (by decide +kernel) (tR226 hE) (by decide +kernel) (by decide +kernel) (tRr hE).2) ?_
    refine gm_sz (gm_p_load (pc := 15) (i := .aload_n 0) (sr := 2) (j := 0) (by decide +kernel) rfl rfl rfl) ?_
    refine gm_sz (fw_gi (pc := 16) (ix := 106) (ci := 11) (j := 9) (x := pt) (by decide +kernel) (tR226 hE) (by decide +kernel) (by decide +kernel) rfl) ?_
    refine gm_sz (fw_ba (pc := 19) (k := 231) (len := 400) (e0 := pt) (x := M 231 pt) (by decide +kernel) (tR231 hE).1 (tR231 hE).2 (by decide) ⟨by omega, by omega⟩ rfl) ?_
    have y2 := tRb hE (j := pt) (by omega) (by omega)
    refine gm_sz (gm_p_load (pc := 20) (i := .iload_n 1) (sr := 0) (j := 1) (by decide +kernel) rfl rfl rfl) ?_
    refine fw_ic (cc := .lt) (pc := 21) (off := 20) (by decide +kernel) (by decide) ⟨by omega, by omega⟩ ⟨by omega, by omega⟩ (fun j3 => ?_) (fun j3 => ?_)
    · have j3 : (M 231 pt) < lo := j3
      refine gm_sz (gm_p_const (pc := 41) (i := .iconst 0) (v := gm_vi 0) (by decide +kernel) (by decide +kernel)) ?_
      exact gm_r_int (pc := 42) (by decide +kernel) (Or.inr ⟨(by decide +kernel), Or.inl rfl⟩) (h0 (by omega))
    · have j3 : ¬ (M 231 pt) < lo := j3
      refine gm_sz (gm_p_load (pc := 24) (i := .aload_n 0) (sr := 2) (j := 0) (by decide +kernel) rfl rfl rfl) ?_
      refine gm_sz (fw_gr (pc := 25) (ix := 26) (ci := 11) (j := 7) (r := 231) (by decide +kernel) (tR226 hE) (by decide +kernel) (by decide +kernel) (tRr hE).2) ?_
      refine gm_sz (gm_p_load (pc := 28) (i := .aload_n 0) (sr := 2) (j := 0) (by decide +kernel) rfl rfl rfl) ?_
      refine gm_sz (fw_gi (pc := 29) (ix := 106) (ci := 11) (j := 9) (x := pt) (by decide +kernel) (tR226 hE) (by decide +kernel) (by decide +kernel) rfl) ?_
      refine gm_sz (fw_ba (pc := 32) (k := 231) (len := 400) (e0 := pt) (x := M 231 pt) (by decide +kernel) (tR231 hE).1 (tR231 hE).2 (by decide) ⟨by omega, by omega⟩ rfl) ?_
      have y4 := tRb hE (j := pt) (by omega) (by omega)
      refine gm_sz (gm_p_load (pc := 33) (i := .iload_n 2) (sr := 0) (j := 2) (by decide +kernel) rfl rfl rfl) ?_
      refine fw_ic (cc := .gt) (pc := 34) (off := 7) (by decide +kernel) (by decide) ⟨by omega, by omega⟩ ⟨by omega, by omega⟩ (fun j5 => ?_) (fun j5 => ?_)
      · have j5 : hi < (M 231 pt) := j5
        refine gm_sz (gm_p_const (pc := 41) (i := .iconst 0) (v := gm_vi 0) (by decide +kernel) (by decide +kernel)) ?_
        exact gm_r_int (pc := 42) (by decide +kernel) (Or.inr ⟨(by decide +kernel), Or.inl rfl⟩) (h0 (by omega))
      · have j5 : ¬ hi < (M 231 pt) := j5
        refine gm_sz (gm_p_const (pc := 37) (i := .iconst 1) (v := gm_vi 1) (by decide +kernel) (by decide +kernel)) ?_
        refine gm_sz (gm_p_goto (pc := 38) (off := 4) (by decide +kernel) (by decide)) ?_
        exact gm_r_int (pc := 42) (by decide +kernel) (Or.inr ⟨(by decide +kernel), Or.inr rfl⟩) (h1 (by omega) (by omega) (by omega))
theorem tx_gi {f : Int → Int} {e p : Int} (h : p ≤ e) : tx_g f e (tx_g f e p) = tx_g f e p := tx_gg (tx_gb (f := f) h).2.2
theorem tr_n0 (hd : 1 ≤ d) (hE : tR n K R M e) : ∀ pt, 0 ≤ pt → pt ≤ e → gm_Wp X LX d bc bs 245 24 [some (gm_vr 226)] [] n K R (rm M (tx_g (M 231) e pt) bg dp st W) Q → gm_Wp X LX d bc bs 245 0 [some (gm_vr 226)] [] n K R (rm M pt bg dp st W) Q := by
  obtain ⟨-, he0, he4⟩ := tRe hE
  refine fw_ind (fun pt hp0 hpe ih kq => ?_)
  have hp : 0 ≤ pt ∧ pt ≤ e := ⟨hp0, hpe⟩
  refine gm_sz (gm_p_load (pc := 0) (i := .aload_n 0) (sr := 2) (j := 0) (by decide +kernel) rfl rfl rfl) ?_
  refine gm_sz (gm_p_const (pc := 1) (i := .bipush 32) (v := gm_vi 32) (by decide +kernel) (by decide +kernel)) ?_
  refine gm_sz (gm_p_const (pc := 3) (i := .bipush 32) (v := gm_vi 32) (by decide +kernel) (by decide +kernel)) ?_
  refine gm_c_virt (k := 226) (ci := 11) (mj := 246) (ix := 112) (pc := 5) (as := [gm_vi 32, gm_vi 32]) (st := []) (d' := d - 1) (bc' := 0) (bs' := 0) (by decide +kernel) (by decide +kernel) (by decide +kernel) (by decide +kernel) (tR226 hE).1 (tR226 hE).2 (by decide) (by decide +kernel) (show 2 = gm_na 246 by decide +kernel) (fw_c2 fw_si fw_si) (show 3 ≤ gm_ml 246 by decide +kernel) (Nat.le_of_ble_eq_true rfl) (by omega) (Nat.zero_le _) (Nat.zero_le _) ?_
  refine tr_c246 hE ⟨by decide, by decide⟩ ⟨by decide, by decide⟩ hp (fun j1 j2 j3 => ?_) (fun j1 => ?_)
  · show gm_Wp X LX d _ _ 245 8 _ [gm_vi 1] n K R _ Q
    have j1 : pt < e := j1
    have j2 : 32 ≤ M 231 pt := j2
    have j3 : M 231 pt ≤ 32 := j3
    refine fw_iffd (cc := .eq) (pc := 8) (off := 16) (by decide +kernel) (by decide) ⟨by decide, by decide⟩ (by decide) ?_
    refine gm_sz (gm_p_load (pc := 11) (i := .aload_n 0) (sr := 2) (j := 0) (by decide +kernel) rfl rfl rfl) ?_
    refine gm_sz (gm_p_dup (pc := 12) (by decide +kernel) fw_sr) ?_
    refine gm_sz (fw_gi (pc := 13) (ix := 106) (ci := 11) (j := 9) (x := pt) (by decide +kernel) (tR226 hE) (by decide +kernel) (by decide +kernel) rfl) ?_
    refine gm_sz (gm_p_const (pc := 16) (i := .iconst 1) (v := gm_vi 1) (by decide +kernel) (by decide +kernel)) ?_
    refine gm_sz (gm_p_bin (pc := 17) (i := .iadd) (f := fun x y => x + y) (by decide +kernel) rfl) ?_
    refine gm_sz (fw_pi (pc := 18) (ix := 106) (ci := 11) (j := 9) (M' := rm M (pt + 1) bg dp st W) (by decide +kernel) (tR226 hE) (by decide +kernel) (by decide +kernel) (by decide +kernel) rm_pt) ?_
    refine gm_sz (gm_p_goto (pc := 21) (off := (-21)) (by decide +kernel) (by decide)) ?_
    rw [tx_gt (by omega) (by omega)] at kq
    exact ih (by omega) kq
  · show gm_Wp X LX d _ _ 245 8 _ [gm_vi 0] n K R _ Q
    have j1 : ¬ (pt < e ∧ 32 ≤ M 231 pt ∧ M 231 pt ≤ 32) := j1
    refine fw_iftd (cc := .eq) (pc := 8) (off := 16) (by decide +kernel) (by decide) ⟨by decide, by decide⟩ (by decide) ?_
    rw [tx_gg (fun h => by omega)] at kq
    exact kq
theorem tr_c245 (hd : 1 ≤ d) (hE : tR n K R M e) (hp : 0 ≤ pt ∧ pt ≤ e) (hg : tx_g (M 231) e pt = b) (hq : Q (.inl none) n K R (rm M b b dp st W)) : gm_Wp X LX d bc bs 245 0 (gm_ent 245 [gm_vr 226]) [] n K R (rm M pt bg dp st W) Q := by
  subst hg
  refine tr_n0 hd hE pt hp.1 hp.2 ?_
  refine gm_sz (gm_p_load (pc := 24) (i := .aload_n 0) (sr := 2) (j := 0) (by decide +kernel) rfl rfl rfl) ?_
  refine gm_sz (gm_p_load (pc := 25) (i := .aload_n 0) (sr := 2) (j := 0) (by decide +kernel) rfl rfl rfl) ?_
  refine gm_sz (fw_gi (pc := 26) (ix := 106) (ci := 11) (j := 9) (x := tx_g (M 231) e pt) (by decide +kernel) (tR226 hE) (by decide +kernel) (by decide +kernel) rfl) ?_
  refine gm_sz (fw_pi (pc := 29) (ix := 116) (ci := 11) (j := 11) (M' := rm M (tx_g (M 231) e pt) (tx_g (M 231) e pt) dp st W) (by decide +kernel) (tR226 hE) (by decide +kernel) (by decide +kernel) (by decide +kernel) rm_bg) ?_
  exact gm_r_void (pc := 32) (by decide +kernel) (by decide +kernel) hq
theorem tr_n1 (hd : 1 ≤ d) (hE : tR n K R M e) : ∀ pt, 0 ≤ pt → pt ≤ e → gm_Wp X LX d bc bs 248 28 [some (gm_vr 226)] [] n K R (rm M (tx_r (tx_l (M 231)) e pt) bg dp st W) Q → gm_Wp X LX d bc bs 248 4 [some (gm_vr 226)] [] n K R (rm M pt bg dp st W) Q := by
  obtain ⟨-, he0, he4⟩ := tRe hE
  refine fw_ind (fun pt hp0 hpe ih kq => ?_)
  have hp : 0 ≤ pt ∧ pt ≤ e := ⟨hp0, hpe⟩
  refine gm_sz (gm_p_load (pc := 4) (i := .aload_n 0) (sr := 2) (j := 0) (by decide +kernel) rfl rfl rfl) ?_
  refine gm_sz (gm_p_const (pc := 5) (i := .bipush 97) (v := gm_vi 97) (by decide +kernel) (by decide +kernel)) ?_
  refine gm_sz (gm_p_const (pc := 7) (i := .bipush 122) (v := gm_vi 122) (by decide +kernel) (by decide +kernel)) ?_
  refine gm_c_virt (k := 226) (ci := 11) (mj := 246) (ix := 112) (pc := 9) (as := [gm_vi 97, gm_vi 122]) (st := []) (d' := d - 1) (bc' := 0) (bs' := 0) (by decide +kernel) (by decide +kernel) (by decide +kernel) (by decide +kernel) (tR226 hE).1 (tR226 hE).2 (by decide) (by decide +kernel) (show 2 = gm_na 246 by decide +kernel) (fw_c2 fw_si fw_si) (show 3 ≤ gm_ml 246 by decide +kernel) (Nat.le_of_ble_eq_true rfl) (by omega) (Nat.zero_le _) (Nat.zero_le _) ?_
  refine tr_c246 hE ⟨by decide, by decide⟩ ⟨by decide, by decide⟩ hp (fun j1 j2 j3 => ?_) (fun j1 => ?_)
  · show gm_Wp X LX d _ _ 248 12 _ [gm_vi 1] n K R _ Q
    have j1 : pt < e := j1
    have j2 : 97 ≤ M 231 pt := j2
    have j3 : M 231 pt ≤ 122 := j3
    refine fw_iffd (cc := .eq) (pc := 12) (off := 16) (by decide +kernel) (by decide) ⟨by decide, by decide⟩ (by decide) ?_
    refine gm_sz (gm_p_load (pc := 15) (i := .aload_n 0) (sr := 2) (j := 0) (by decide +kernel) rfl rfl rfl) ?_
    refine gm_sz (gm_p_dup (pc := 16) (by decide +kernel) fw_sr) ?_
    refine gm_sz (fw_gi (pc := 17) (ix := 106) (ci := 11) (j := 9) (x := pt) (by decide +kernel) (tR226 hE) (by decide +kernel) (by decide +kernel) rfl) ?_
    refine gm_sz (gm_p_const (pc := 20) (i := .iconst 1) (v := gm_vi 1) (by decide +kernel) (by decide +kernel)) ?_
    refine gm_sz (gm_p_bin (pc := 21) (i := .iadd) (f := fun x y => x + y) (by decide +kernel) rfl) ?_
    refine gm_sz (fw_pi (pc := 22) (ix := 106) (ci := 11) (j := 9) (M' := rm M (pt + 1) bg dp st W) (by decide +kernel) (tR226 hE) (by decide +kernel) (by decide +kernel) (by decide +kernel) rm_pt) ?_
    refine gm_sz (gm_p_goto (pc := 25) (off := (-21)) (by decide +kernel) (by decide)) ?_
    rw [tx_rt (by omega) (decide_eq_true (by omega))] at kq
    exact ih (by omega) kq
  · show gm_Wp X LX d _ _ 248 12 _ [gm_vi 0] n K R _ Q
    have j1 : ¬ (pt < e ∧ 97 ≤ M 231 pt ∧ M 231 pt ≤ 122) := j1
    refine fw_iftd (cc := .eq) (pc := 12) (off := 16) (by decide +kernel) (by decide) ⟨by decide, by decide⟩ (by decide) ?_
    rw [tx_rf (fun h h2 => by have := of_decide_eq_true h2; omega)] at kq
    exact kq
theorem tr_c248 (hd : 2 ≤ d) (hE : tR n K R M e) (hp : 0 ≤ pt ∧ pt ≤ e) (hg : tx_g (M 231) e pt = b) (hq : Q (.inl none) n K R (rm M (tx_r (tx_l (M 231)) e b) b dp st W)) : gm_Wp X LX d bc bs 248 0 (gm_ent 248 [gm_vr 226]) [] n K R (rm M pt bg dp st W) Q := by
  subst hg
  obtain ⟨-, he0, he4⟩ := tRe hE
  refine gm_sz (gm_p_load (pc := 0) (i := .aload_n 0) (sr := 2) (j := 0) (by decide +kernel) rfl rfl rfl) ?_
  refine gm_c_virt (k := 226) (ci := 11) (mj := 245) (ix := 119) (pc := 1) (as := []) (st := []) (d' := d - 1) (bc' := 0) (bs' := 0) (by decide +kernel) (by decide +kernel) (by decide +kernel) (by decide +kernel) (tR226 hE).1 (tR226 hE).2 (by decide) (by decide +kernel) (show 0 = gm_na 245 by decide +kernel) fw_c0 (show 1 ≤ gm_ml 245 by decide +kernel) (Nat.le_of_ble_eq_true rfl) (by omega) (Nat.zero_le _) (Nat.zero_le _) ?_
  refine tr_c245 (by omega) hE hp rfl ?_
  show gm_Wp X LX d _ _ 248 4 _ [] n K R _ Q
  have g1 : 0 ≤ tx_g (M 231) e pt ∧ tx_g (M 231) e pt ≤ e := by have := tx_gb (f := M 231) hp.2; have := hp.1; omega
  have q2 : tx_g (M 231) e (tx_g (M 231) e pt) = tx_g (M 231) e pt := by rw [← (rfl : tx_g (M 231) e pt = tx_g (M 231) e pt)]; exact tx_gi hp.2
  exact tr_n1 (by omega) hE _ g1.1 g1.2 (gm_r_void (pc := 28) (by decide +kernel) (by decide +kernel) hq)
theorem tr_w8 (hd : 5 ≤ d) (hE : tR n K R M e) (hc : c < 75) (hl : tx_o c = l) (hb : 0 ≤ bg ∧ pt ≤ e) (hs : pt - bg = (l.length : Int)) (h1 : (pt - bg = (l.length : Int) ∧ ∀ i : Nat, i < l.length → M 231 (bg + i) = l.getD i 0) → Q (.inl (some (gm_vi 1))) n K R (rm M pt bg dp st W)) (h0 : ¬ (pt - bg = (l.length : Int) ∧ ∀ i : Nat, i < l.length → M 231 (bg + i) = l.getD i 0) → Q (.inl (some (gm_vi 0))) n K R (rm M pt bg dp st W)) : ∀ i, 0 ≤ i → i ≤ (l.length : Int) → (∀ j : Nat, (j : Int) < i → M 231 (bg + j) = l.getD j 0) → gm_Wp X LX d bc bs 250 24 [some (gm_vr 226), some (gm_vo c), some (gm_vi 1), some (gm_vi i)] [] n K R (rm M pt bg dp st W) Q := by
  obtain ⟨-, he0, he4⟩ := tRe hE
  have hsl := (tx_ol hl).1
  have hid : c < gm_sl.length := by rw [gm_sl75]; exact hc
  have hs9 := (gm_chk_s hid).1.2
  refine fw_ind (fun i hi0 hil ih hall => ?_)
  refine gm_sz (gm_p_load (pc := 24) (i := .iload_n 2) (sr := 0) (j := 2) (by decide +kernel) rfl rfl rfl) ?_
  refine fw_iffd (cc := .eq) (pc := 25) (off := 42) (by decide +kernel) (by decide) ⟨by decide, by decide⟩ (by decide) ?_
  refine gm_sz (gm_p_load (pc := 28) (i := .iload_n 3) (sr := 0) (j := 3) (by decide +kernel) rfl rfl rfl) ?_
  refine gm_sz (gm_p_load (pc := 29) (i := .aload_n 1) (sr := 2) (j := 1) (by decide +kernel) rfl rfl rfl) ?_
  refine gm_c_vstr (id := c) (mj := 82) (ix := 122) (pc := 30) (as := []) (st := [gm_vi i]) (d' := d - 1) (bc' := 0) (bs' := 0) (by decide +kernel) (by decide +kernel) (by decide +kernel) (by decide +kernel) hid (by decide +kernel) (show 0 = gm_na 82 by decide +kernel) fw_c0 (show 1 ≤ gm_ml 82 by decide +kernel) (Nat.le_of_ble_eq_true rfl) (by omega) (Nat.zero_le _) (Nat.zero_le _) ?_
  refine gm_w82 (by omega) hid ?_
  show gm_Wp X LX d _ _ 250 33 _ [gm_vi (gm_slen c : Int), gm_vi i] n K R _ Q
  refine fw_ic (cc := .ge) (pc := 33) (off := 34) (by decide +kernel) (by decide) ⟨by omega, by omega⟩ ⟨by omega, by omega⟩ (fun j1 => ?_) (fun j1 => ?_)
  · have j1 : (gm_slen c : Int) ≤ i := j1
    refine gm_sz (gm_p_load (pc := 67) (i := .iload_n 2) (sr := 0) (j := 2) (by decide +kernel) rfl rfl rfl) ?_
    exact gm_r_int (pc := 68) (by decide +kernel) (Or.inr ⟨(by decide +kernel), Or.inr rfl⟩) (h1 ⟨hs, fun j hj => hall j (by omega)⟩)
  · have j1 : ¬ (gm_slen c : Int) ≤ i := j1
    refine gm_sz (gm_p_load (pc := 36) (i := .aload_n 0) (sr := 2) (j := 0) (by decide +kernel) rfl rfl rfl) ?_
    refine gm_sz (fw_gr (pc := 37) (ix := 26) (ci := 11) (j := 7) (r := 231) (by decide +kernel) (tR226 hE) (by decide +kernel) (by decide +kernel) (tRr hE).2) ?_
    refine gm_sz (gm_p_load (pc := 40) (i := .aload_n 0) (sr := 2) (j := 0) (by decide +kernel) rfl rfl rfl) ?_
    refine gm_sz (fw_gi (pc := 41) (ix := 116) (ci := 11) (j := 11) (x := bg) (by decide +kernel) (tR226 hE) (by decide +kernel) (by decide +kernel) rfl) ?_
    refine gm_sz (gm_p_load (pc := 44) (i := .iload_n 3) (sr := 0) (j := 3) (by decide +kernel) rfl rfl rfl) ?_
    refine gm_sz (gm_p_bin (pc := 45) (i := .iadd) (f := fun x y => x + y) (by decide +kernel) rfl) ?_
    refine gm_sz (fw_ba (pc := 46) (k := 231) (len := 400) (e0 := bg + i) (x := M 231 (bg + i)) (by decide +kernel) (tR231 hE).1 (tR231 hE).2 (by decide) ⟨by omega, by omega⟩ rfl) ?_
    have y2 := tRb hE (j := bg + i) (by omega) (by omega)
    refine gm_sz (gm_p_load (pc := 47) (i := .aload_n 1) (sr := 2) (j := 1) (by decide +kernel) rfl rfl rfl) ?_
    refine gm_sz (gm_p_load (pc := 48) (i := .iload_n 3) (sr := 0) (j := 3) (by decide +kernel) rfl rfl rfl) ?_
    refine gm_c_vstr (id := c) (mj := 84) (ix := 127) (pc := 49) (as := [gm_vi i]) (st := [gm_vi (M 231 (bg + i))]) (d' := d - 1) (bc' := 0) (bs' := 0) (by decide +kernel) (by decide +kernel) (by decide +kernel) (by decide +kernel) hid (by decide +kernel) (show 1 = gm_na 84 by decide +kernel) (fw_c1 fw_si) (show 2 ≤ gm_ml 84 by decide +kernel) (Nat.le_of_ble_eq_true rfl) (by omega) (Nat.zero_le _) (Nat.zero_le _) ?_
    refine gm_w84 (by omega) hid ⟨by omega, by omega⟩ ?_
    show gm_Wp X LX d _ _ 250 52 _ [gm_vi (gm_chv c i.toNat), gm_vi (M 231 (bg + i))] n K R _ Q
    have z3 := ((gm_chk_s hid).2 i.toNat (by omega)).2
    refine fw_ic (cc := .ne) (pc := 52) (off := 7) (by decide +kernel) (by decide) ⟨by omega, by omega⟩ ⟨by omega, by omega⟩ (fun j4 => ?_) (fun j4 => ?_)
    · have j4 : ¬ (M 231 (bg + i)) = (gm_chv c i.toNat) := j4
      refine gm_sz (gm_p_const (pc := 59) (i := .iconst 0) (v := gm_vi 0) (by decide +kernel) (by decide +kernel)) ?_
      refine gm_sz (gm_p_stor (pc := 60) (i := .istore_n 2) (sr := 0) (j := 2) (by decide +kernel) rfl (show 3 ≤ _ from Nat.le_of_ble_eq_true rfl) rfl) ?_
      refine gm_sz (gm_p_iinc (pc := 61) (j := 3) (z := 1) (by decide +kernel) rfl) ?_
      refine gm_sz (gm_p_goto (pc := 64) (off := (-40)) (by decide +kernel) (by decide)) ?_
      refine gm_sz (gm_p_load (pc := 24) (i := .iload_n 2) (sr := 0) (j := 2) (by decide +kernel) rfl rfl rfl) ?_
      refine fw_iftd (cc := .eq) (pc := 25) (off := 42) (by decide +kernel) (by decide) ⟨by decide, by decide⟩ (by decide) ?_
      refine gm_sz (gm_p_load (pc := 67) (i := .iload_n 2) (sr := 0) (j := 2) (by decide +kernel) rfl rfl rfl) ?_
      refine gm_r_int (pc := 68) (by decide +kernel) (Or.inr ⟨(by decide +kernel), Or.inl rfl⟩) (h0 fun hh => ?_)
      have e1 := hh.2 i.toNat (by omega)
      rw [show ((i.toNat : Nat) : Int) = i by omega, ← (tx_ol hl).2 i.toNat (by omega)] at e1
      exact j4 e1
    · have j4 : (M 231 (bg + i)) = (gm_chv c i.toNat) := Classical.not_not.mp j4
      refine gm_sz (gm_p_const (pc := 55) (i := .iconst 1) (v := gm_vi 1) (by decide +kernel) (by decide +kernel)) ?_
      refine gm_sz (gm_p_goto (pc := 56) (off := 4) (by decide +kernel) (by decide)) ?_
      refine gm_sz (gm_p_stor (pc := 60) (i := .istore_n 2) (sr := 0) (j := 2) (by decide +kernel) rfl (show 3 ≤ _ from Nat.le_of_ble_eq_true rfl) rfl) ?_
      refine gm_sz (gm_p_iinc (pc := 61) (j := 3) (z := 1) (by decide +kernel) rfl) ?_
      refine gm_sz (gm_p_goto (pc := 64) (off := (-40)) (by decide +kernel) (by decide)) ?_
      refine ih (by omega) (fun j hj => ?_)
      by_cases hji : (j : Int) = i
      · rw [hji, j4, (tx_ol hl).2 i.toNat (by omega), show i.toNat = j by omega]
      · exact hall j (by omega)
theorem tr_c250 (hd : 5 ≤ d) (hE : tR n K R M e) (hc : c < 75) (hl : tx_o c = l) (hb : 0 ≤ bg ∧ bg ≤ pt ∧ pt ≤ e) (h1 : (pt - bg = (l.length : Int) ∧ ∀ i : Nat, i < l.length → M 231 (bg + i) = l.getD i 0) → Q (.inl (some (gm_vi 1))) n K R (rm M pt bg dp st W)) (h0 : ¬ (pt - bg = (l.length : Int) ∧ ∀ i : Nat, i < l.length → M 231 (bg + i) = l.getD i 0) → Q (.inl (some (gm_vi 0))) n K R (rm M pt bg dp st W)) : gm_Wp X LX d bc bs 250 0 (gm_ent 250 [gm_vr 226, gm_vo c]) [] n K R (rm M pt bg dp st W) Q := by
  obtain ⟨-, he0, he4⟩ := tRe hE
  have hsl := (tx_ol hl).1
  have hid : c < gm_sl.length := by rw [gm_sl75]; exact hc
  have hs9 := (gm_chk_s hid).1.2
  refine gm_sz (gm_p_load (pc := 0) (i := .aload_n 0) (sr := 2) (j := 0) (by decide +kernel) rfl rfl rfl) ?_
  refine gm_sz (fw_gi (pc := 1) (ix := 106) (ci := 11) (j := 9) (x := pt) (by decide +kernel) (tR226 hE) (by decide +kernel) (by decide +kernel) rfl) ?_
  refine gm_sz (gm_p_load (pc := 4) (i := .aload_n 0) (sr := 2) (j := 0) (by decide +kernel) rfl rfl rfl) ?_
  refine gm_sz (fw_gi (pc := 5) (ix := 116) (ci := 11) (j := 11) (x := bg) (by decide +kernel) (tR226 hE) (by decide +kernel) (by decide +kernel) rfl) ?_
  refine gm_sz (gm_p_bin (pc := 8) (i := .isub) (f := fun x y => x - y) (by decide +kernel) rfl) ?_
  refine gm_sz (gm_p_load (pc := 9) (i := .aload_n 1) (sr := 2) (j := 1) (by decide +kernel) rfl rfl rfl) ?_
  refine gm_c_vstr (id := c) (mj := 82) (ix := 122) (pc := 10) (as := []) (st := [gm_vi (pt - bg)]) (d' := d - 1) (bc' := 0) (bs' := 0) (by decide +kernel) (by decide +kernel) (by decide +kernel) (by decide +kernel) hid (by decide +kernel) (show 0 = gm_na 82 by decide +kernel) fw_c0 (show 1 ≤ gm_ml 82 by decide +kernel) (Nat.le_of_ble_eq_true rfl) (by omega) (Nat.zero_le _) (Nat.zero_le _) ?_
  refine gm_w82 (by omega) hid ?_
  show gm_Wp X LX d _ _ 250 13 _ [gm_vi (gm_slen c : Int), gm_vi (pt - bg)] n K R _ Q
  refine fw_ic (cc := .ne) (pc := 13) (off := 7) (by decide +kernel) (by decide) ⟨by omega, by omega⟩ ⟨by omega, by omega⟩ (fun j1 => ?_) (fun j1 => ?_)
  · have j1 : ¬ (pt - bg) = (gm_slen c : Int) := j1
    refine gm_sz (gm_p_const (pc := 20) (i := .iconst 0) (v := gm_vi 0) (by decide +kernel) (by decide +kernel)) ?_
    refine gm_sz (gm_p_stor (pc := 21) (i := .istore_n 2) (sr := 0) (j := 2) (by decide +kernel) rfl (show 3 ≤ _ from Nat.le_of_ble_eq_true rfl) rfl) ?_
    refine gm_sz (gm_p_const (pc := 22) (i := .iconst 0) (v := gm_vi 0) (by decide +kernel) (by decide +kernel)) ?_
    refine gm_sz (gm_p_stor (pc := 23) (i := .istore_n 3) (sr := 0) (j := 3) (by decide +kernel) rfl (show 4 ≤ _ from Nat.le_of_ble_eq_true rfl) rfl) ?_
    refine gm_sz (gm_p_load (pc := 24) (i := .iload_n 2) (sr := 0) (j := 2) (by decide +kernel) rfl rfl rfl) ?_
    refine fw_iftd (cc := .eq) (pc := 25) (off := 42) (by decide +kernel) (by decide) ⟨by decide, by decide⟩ (by decide) ?_
    refine gm_sz (gm_p_load (pc := 67) (i := .iload_n 2) (sr := 0) (j := 2) (by decide +kernel) rfl rfl rfl) ?_
    exact gm_r_int (pc := 68) (by decide +kernel) (Or.inr ⟨(by decide +kernel), Or.inl rfl⟩) (h0 fun hh => j1 (by have := hh.1; omega))
  · have j1 : (pt - bg) = (gm_slen c : Int) := Classical.not_not.mp j1
    refine gm_sz (gm_p_const (pc := 16) (i := .iconst 1) (v := gm_vi 1) (by decide +kernel) (by decide +kernel)) ?_
    refine gm_sz (gm_p_goto (pc := 17) (off := 4) (by decide +kernel) (by decide)) ?_
    refine gm_sz (gm_p_stor (pc := 21) (i := .istore_n 2) (sr := 0) (j := 2) (by decide +kernel) rfl (show 3 ≤ _ from Nat.le_of_ble_eq_true rfl) rfl) ?_
    refine gm_sz (gm_p_const (pc := 22) (i := .iconst 0) (v := gm_vi 0) (by decide +kernel) (by decide +kernel)) ?_
    refine gm_sz (gm_p_stor (pc := 23) (i := .istore_n 3) (sr := 0) (j := 3) (by decide +kernel) rfl (show 4 ≤ _ from Nat.le_of_ble_eq_true rfl) rfl) ?_
    exact tr_w8 hd hE hc hl ⟨hb.1, hb.2.2⟩ (by omega) h1 h0 0 (Int.le_refl _) (by omega) (fun j hj => absurd hj (by omega))
/-- the letters from b on are a word -/
theorem tr_is (hb : 0 ≤ b ∧ b ≤ e) (hn : 0 < l.length) : (tx_r (tx_l (M 231)) e b - b = (l.length : Int) ∧ ∀ i : Nat, i < l.length → M 231 (b + i) = l.getD i 0) ↔ tx_is (M 231) e b l := by
  by_cases h0 : b < e ∧ (97 ≤ M 231 b ∧ M 231 b ≤ 122)
  · obtain ⟨t1, t2, -⟩ := tx_k1 (f := M 231) (m := 0) h0.1 h0.2
    unfold tx_is
    rw [t1, t2]
    exact ⟨fun h => ⟨rfl, h.1, h.2⟩, fun h => ⟨h.2.1, h.2.2⟩⟩
  · have e1 : tx_r (tx_l (M 231)) e b = b := tx_rf (fun h h2 => h0 ⟨h, of_decide_eq_true h2⟩)
    rw [e1]
    refine ⟨fun h => absurd h.1 (by omega), fun h => ?_⟩
    exfalso
    have h1 := h.1
    have h2 := tx_kne (f := M 231) (e := e) (b := b) (by omega)
    by_cases h4 : 48 ≤ M 231 b ∧ M 231 b ≤ 57
    · have := (tx_k2 (m := 0) h2 h4).1
      omega
    · have := (tx_k3 (f := M 231) (m := 0) h2 (fun h => h0 ⟨h2, h⟩) h4).1
      omega
theorem tx_s1 {f : Int → Int} (h : tx_is f e b l) : tx_s f e b = tx_r (tx_l f) e b := by
  have h1 := h.1
  have h2 := tx_kne (f := f) (e := e) (b := b) (by omega)
  by_cases h3 : 97 ≤ f b ∧ f b ≤ 122
  · exact (tx_k1 (m := 0) h2 h3).2.1
  exfalso
  by_cases h4 : 48 ≤ f b ∧ f b ≤ 57
  · have := (tx_k2 (m := 0) h2 h4).1
    omega
  · have := tx_k3 (f := f) (m := 0) h2 h3 h4
    have h5 := h.2.1
    rw [this.2.1] at h5
    have h6 := this.1
    omega
theorem tr_c269 (hd : 6 ≤ d) (hE : tR n K R M e) (hc : c < 75) (hl : tx_o c = l) (hn : 0 < l.length) (hp : 0 ≤ pt ∧ pt ≤ e) (hg : tx_g (M 231) e pt = b) (h1 : tx_is (M 231) e b l → Q (.inl (some (gm_vi 1))) n K R (rm M (tx_s (M 231) e b) b dp st W)) (h0 : ¬ tx_is (M 231) e b l → Q (.inl (some (gm_vi 0))) n K R (rm M b b dp st W)) : gm_Wp X LX d bc bs 269 0 (gm_ent 269 [gm_vr 226, gm_vo c]) [] n K R (rm M pt bg dp st W) Q := by
  subst hg
  obtain ⟨-, he0, he4⟩ := tRe hE
  refine gm_sz (gm_p_load (pc := 0) (i := .aload_n 0) (sr := 2) (j := 0) (by decide +kernel) rfl rfl rfl) ?_
  refine gm_c_virt (k := 226) (ci := 11) (mj := 248) (ix := 131) (pc := 1) (as := []) (st := []) (d' := d - 1) (bc' := 0) (bs' := 0) (by decide +kernel) (by decide +kernel) (by decide +kernel) (by decide +kernel) (tR226 hE).1 (tR226 hE).2 (by decide) (by decide +kernel) (show 0 = gm_na 248 by decide +kernel) fw_c0 (show 1 ≤ gm_ml 248 by decide +kernel) (Nat.le_of_ble_eq_true rfl) (by omega) (Nat.zero_le _) (Nat.zero_le _) ?_
  refine tr_c248 (by omega) hE hp rfl ?_
  show gm_Wp X LX d _ _ 269 4 _ [] n K R _ Q
  have g1 : 0 ≤ tx_g (M 231) e pt ∧ tx_g (M 231) e pt ≤ e := by have := tx_gb (f := M 231) hp.2; have := hp.1; omega
  have q3 : tx_g (M 231) e (tx_g (M 231) e pt) = tx_g (M 231) e pt := by rw [← (rfl : tx_g (M 231) e pt = tx_g (M 231) e pt)]; exact tx_gi hp.2
  have g2 : 0 ≤ tx_r (tx_l (M 231)) e (tx_g (M 231) e pt) ∧ tx_r (tx_l (M 231)) e (tx_g (M 231) e pt) ≤ e := by have := tx_rb (q := tx_l (M 231)) (e := e) _ (tx_g (M 231) e pt) rfl g1.2; omega
  refine gm_sz (gm_p_load (pc := 4) (i := .aload_n 0) (sr := 2) (j := 0) (by decide +kernel) rfl rfl rfl) ?_
  refine gm_sz (gm_p_load (pc := 5) (i := .aload_n 1) (sr := 2) (j := 1) (by decide +kernel) rfl rfl rfl) ?_
  refine gm_c_virt (k := 226) (ci := 11) (mj := 250) (ix := 134) (pc := 6) (as := [gm_vo c]) (st := []) (d' := d - 1) (bc' := 0) (bs' := 0) (by decide +kernel) (by decide +kernel) (by decide +kernel) (by decide +kernel) (tR226 hE).1 (tR226 hE).2 (by decide) (by decide +kernel) (show 1 = gm_na 250 by decide +kernel) (fw_c1 fw_so) (show 2 ≤ gm_ml 250 by decide +kernel) (Nat.le_of_ble_eq_true rfl) (by omega) (Nat.zero_le _) (Nat.zero_le _) ?_
  refine tr_c250 (by omega) hE hc hl ⟨g1.1, (tx_rb (q := tx_l (M 231)) (e := e) _ (tx_g (M 231) e pt) rfl g1.2).1, (tx_rb (q := tx_l (M 231)) (e := e) _ (tx_g (M 231) e pt) rfl g1.2).2.1⟩ (fun j4 => ?_) (fun j4 => ?_)
  · show gm_Wp X LX d _ _ 269 9 _ [gm_vi 1] n K R _ Q
    have j4 : tx_is (M 231) e (tx_g (M 231) e pt) l := (tr_is g1 hn).mp j4
    have q5 : tx_g (M 231) e (tx_r (tx_l (M 231)) e (tx_g (M 231) e pt)) = tx_n (M 231) e (tx_g (M 231) e pt) := by rw [← tx_s1 j4]; rfl
    have g7 : 0 ≤ tx_n (M 231) e (tx_g (M 231) e pt) ∧ tx_n (M 231) e (tx_g (M 231) e pt) ≤ e := by have := tx_nb (f := M 231) (b := tx_g (M 231) e pt) g1.2; have := g1.1; omega
    have g6 : tx_g (M 231) e pt + 1 ≤ tx_r (tx_l (M 231)) e (tx_g (M 231) e pt) := by have := (tx_sb (f := M 231) g1.2).2.2 (g_isb j4); rwa [tx_s1 j4] at this
    refine fw_iffd (cc := .eq) (pc := 9) (off := 5) (by decide +kernel) (by decide) ⟨by decide, by decide⟩ (by decide) ?_
    refine gm_sz (gm_p_const (pc := 12) (i := .iconst 1) (v := gm_vi 1) (by decide +kernel) (by decide +kernel)) ?_
    have h1 := h1 j4
    rw [tx_s1 j4] at h1
    exact gm_r_int (pc := 13) (by decide +kernel) (Or.inr ⟨(by decide +kernel), Or.inr rfl⟩) h1
  · show gm_Wp X LX d _ _ 269 9 _ [gm_vi 0] n K R _ Q
    have j4 : ¬ tx_is (M 231) e (tx_g (M 231) e pt) l := fun hh => j4 ((tr_is g1 hn).mpr hh)
    refine fw_iftd (cc := .eq) (pc := 9) (off := 5) (by decide +kernel) (by decide) ⟨by decide, by decide⟩ (by decide) ?_
    refine gm_sz (gm_p_load (pc := 14) (i := .aload_n 0) (sr := 2) (j := 0) (by decide +kernel) rfl rfl rfl) ?_
    refine gm_sz (gm_p_load (pc := 15) (i := .aload_n 0) (sr := 2) (j := 0) (by decide +kernel) rfl rfl rfl) ?_
    refine gm_sz (fw_gi (pc := 16) (ix := 116) (ci := 11) (j := 11) (x := tx_g (M 231) e pt) (by decide +kernel) (tR226 hE) (by decide +kernel) (by decide +kernel) rfl) ?_
    refine gm_sz (fw_pi (pc := 19) (ix := 106) (ci := 11) (j := 9) (M' := rm M (tx_g (M 231) e pt) (tx_g (M 231) e pt) dp st W) (by decide +kernel) (tR226 hE) (by decide +kernel) (by decide +kernel) (by decide +kernel) rm_pt) ?_
    refine gm_sz (gm_p_const (pc := 22) (i := .iconst 0) (v := gm_vi 0) (by decide +kernel) (by decide +kernel)) ?_
    exact gm_r_int (pc := 23) (by decide +kernel) (Or.inr ⟨(by decide +kernel), Or.inl rfl⟩) (h0 j4)
theorem tr_c278 {x : Int} (hd : 2 ≤ d) (hE : tR n K R M e) (hx : 0 ≤ x ∧ x < 97 ∧ ¬ (48 ≤ x ∧ x ≤ 57)) (hp : 0 ≤ pt ∧ pt ≤ e) (hg : tx_g (M 231) e pt = b) (h1 : tx_k (M 231) e b = x → Q (.inl (some (gm_vi 1))) n K R (rm M (tx_s (M 231) e b) b dp st W)) (h0 : ¬ tx_k (M 231) e b = x → Q (.inl (some (gm_vi 0))) n K R (rm M b b dp st W)) : gm_Wp X LX d bc bs 278 0 (gm_ent 278 [gm_vr 226, gm_vi x]) [] n K R (rm M pt bg dp st W) Q := by
  subst hg
  obtain ⟨-, he0, he4⟩ := tRe hE
  obtain ⟨hx1, hx2, hx3⟩ := hx
  refine gm_sz (gm_p_load (pc := 0) (i := .aload_n 0) (sr := 2) (j := 0) (by decide +kernel) rfl rfl rfl) ?_
  refine gm_c_virt (k := 226) (ci := 11) (mj := 245) (ix := 119) (pc := 1) (as := []) (st := []) (d' := d - 1) (bc' := 0) (bs' := 0) (by decide +kernel) (by decide +kernel) (by decide +kernel) (by decide +kernel) (tR226 hE).1 (tR226 hE).2 (by decide) (by decide +kernel) (show 0 = gm_na 245 by decide +kernel) fw_c0 (show 1 ≤ gm_ml 245 by decide +kernel) (Nat.le_of_ble_eq_true rfl) (by omega) (Nat.zero_le _) (Nat.zero_le _) ?_
  refine tr_c245 (by omega) hE hp rfl ?_
  show gm_Wp X LX d _ _ 278 4 _ [] n K R _ Q
  have g1 : 0 ≤ tx_g (M 231) e pt ∧ tx_g (M 231) e pt ≤ e := by have := tx_gb (f := M 231) hp.2; have := hp.1; omega
  have q2 : tx_g (M 231) e (tx_g (M 231) e pt) = tx_g (M 231) e pt := by rw [← (rfl : tx_g (M 231) e pt = tx_g (M 231) e pt)]; exact tx_gi hp.2
  refine gm_sz (gm_p_load (pc := 4) (i := .aload_n 0) (sr := 2) (j := 0) (by decide +kernel) rfl rfl rfl) ?_
  refine gm_sz (gm_p_load (pc := 5) (i := .iload_n 1) (sr := 0) (j := 1) (by decide +kernel) rfl rfl rfl) ?_
  refine gm_sz (gm_p_load (pc := 6) (i := .iload_n 1) (sr := 0) (j := 1) (by decide +kernel) rfl rfl rfl) ?_
  refine gm_c_virt (k := 226) (ci := 11) (mj := 246) (ix := 112) (pc := 7) (as := [gm_vi x, gm_vi x]) (st := []) (d' := d - 1) (bc' := 0) (bs' := 0) (by decide +kernel) (by decide +kernel) (by decide +kernel) (by decide +kernel) (tR226 hE).1 (tR226 hE).2 (by decide) (by decide +kernel) (show 2 = gm_na 246 by decide +kernel) (fw_c2 fw_si fw_si) (show 3 ≤ gm_ml 246 by decide +kernel) (Nat.le_of_ble_eq_true rfl) (by omega) (Nat.zero_le _) (Nat.zero_le _) ?_
  refine tr_c246 hE ⟨by omega, by omega⟩ ⟨by omega, by omega⟩ g1 (fun j3 j4 j5 => ?_) (fun j3 => ?_)
  · show gm_Wp X LX d _ _ 278 10 _ [gm_vi 1] n K R _ Q
    have j3 : tx_g (M 231) e pt < e := j3
    have j4 : x ≤ M 231 (tx_g (M 231) e pt) := j4
    have j5 : M 231 (tx_g (M 231) e pt) ≤ x := j5
    refine fw_iftd (cc := .ne) (pc := 10) (off := 5) (by decide +kernel) (by decide) ⟨by decide, by decide⟩ (by decide) ?_
    refine gm_sz (gm_p_load (pc := 15) (i := .aload_n 0) (sr := 2) (j := 0) (by decide +kernel) rfl rfl rfl) ?_
    refine gm_sz (gm_p_dup (pc := 16) (by decide +kernel) fw_sr) ?_
    refine gm_sz (fw_gi (pc := 17) (ix := 106) (ci := 11) (j := 9) (x := tx_g (M 231) e pt) (by decide +kernel) (tR226 hE) (by decide +kernel) (by decide +kernel) rfl) ?_
    refine gm_sz (gm_p_const (pc := 20) (i := .iconst 1) (v := gm_vi 1) (by decide +kernel) (by decide +kernel)) ?_
    refine gm_sz (gm_p_bin (pc := 21) (i := .iadd) (f := fun x y => x + y) (by decide +kernel) rfl) ?_
    refine gm_sz (fw_pi (pc := 22) (ix := 106) (ci := 11) (j := 9) (M' := rm M ((tx_g (M 231) e pt) + 1) (tx_g (M 231) e pt) dp st W) (by decide +kernel) (tR226 hE) (by decide +kernel) (by decide +kernel) (by decide +kernel) rm_pt) ?_
    refine gm_sz (gm_p_const (pc := 25) (i := .iconst 1) (v := gm_vi 1) (by decide +kernel) (by decide +kernel)) ?_
    have t1 := (tx_ksg (f := M 231) (e := e) (b := tx_g (M 231) e pt) (c := x) (fun h => tRb hE (by omega) (by omega)) ⟨by omega, by omega, by omega⟩).mpr ⟨by omega, by omega⟩
    have h1 := h1 t1
    rw [(tx_k3 (f := M 231) (m := 0) (b := tx_g (M 231) e pt) (e := e) (by omega) (by omega) (by omega)).2.1] at h1
    exact gm_r_int (pc := 26) (by decide +kernel) (Or.inr ⟨(by decide +kernel), Or.inr rfl⟩) h1
  · show gm_Wp X LX d _ _ 278 10 _ [gm_vi 0] n K R _ Q
    have j3 : ¬ (tx_g (M 231) e pt < e ∧ x ≤ M 231 (tx_g (M 231) e pt) ∧ M 231 (tx_g (M 231) e pt) ≤ x) := j3
    refine fw_iffd (cc := .ne) (pc := 10) (off := 5) (by decide +kernel) (by decide) ⟨by decide, by decide⟩ (by decide) ?_
    refine gm_sz (gm_p_const (pc := 13) (i := .iconst 0) (v := gm_vi 0) (by decide +kernel) (by decide +kernel)) ?_
    exact gm_r_int (pc := 14) (by decide +kernel) (Or.inr ⟨(by decide +kernel), Or.inl rfl⟩) (h0 fun hh => by have := (tx_ksg (f := M 231) (e := e) (b := tx_g (M 231) e pt) (c := x) (fun h => tRb hE (by omega) (by omega)) ⟨by omega, by omega, by omega⟩).mp hh; omega)
/-- figures, from p on: v is what the first m of them say -/
theorem tr_n2 {m B : Int} (hd : 1 ≤ d) (hE : tR n K R M e) (hm : 1 ≤ m ∧ m ≤ 4) (hlo : gm_ir lo) (hhi : gm_ir hi) (hB : 0 ≤ B) : ∀ pt, 0 ≤ pt → pt ≤ e → ∀ v, B ≤ pt → (0 ≤ v ∧ v < tx_t (if pt - B ≤ m then pt - B else m)) → (∀ v2 p2, B ≤ p2 → p2 ≤ e → p2 = tx_r (tx_d (M 231)) e pt → (0 ≤ v2 ∧ v2 < 10000) → (if p2 - B ≤ m then v2 else -1) = tx_u (M 231) e m B (e - pt).toNat pt (if pt - B ≤ m then v else -1) → gm_Wp X LX d bc bs 256 69 [some (gm_vr 226), some (gm_vi lo), some (gm_vi hi), some (gm_vi m), some (gm_vi v2)] [] n K R (rm M p2 B dp st W) Q) → gm_Wp X LX d bc bs 256 7 [some (gm_vr 226), some (gm_vi lo), some (gm_vi hi), some (gm_vi m), some (gm_vi v)] [] n K R (rm M pt B dp st W) Q := by
  obtain ⟨-, he0, he4⟩ := tRe hE
  refine fw_ind (fun pt hp0 hpe ih v hbp hv kq => ?_)
  have hp : 0 ≤ pt ∧ pt ≤ e := ⟨hp0, hpe⟩
  have htb := tx_tb (k := if pt - B ≤ m then pt - B else m)
  refine gm_sz (gm_p_load (pc := 7) (i := .aload_n 0) (sr := 2) (j := 0) (by decide +kernel) rfl rfl rfl) ?_
  refine gm_sz (gm_p_const (pc := 8) (i := .bipush 48) (v := gm_vi 48) (by decide +kernel) (by decide +kernel)) ?_
  refine gm_sz (gm_p_const (pc := 10) (i := .bipush 57) (v := gm_vi 57) (by decide +kernel) (by decide +kernel)) ?_
  refine gm_c_virt (k := 226) (ci := 11) (mj := 246) (ix := 112) (pc := 12) (as := [gm_vi 48, gm_vi 57]) (st := []) (d' := d - 1) (bc' := 0) (bs' := 0) (by decide +kernel) (by decide +kernel) (by decide +kernel) (by decide +kernel) (tR226 hE).1 (tR226 hE).2 (by decide) (by decide +kernel) (show 2 = gm_na 246 by decide +kernel) (fw_c2 fw_si fw_si) (show 3 ≤ gm_ml 246 by decide +kernel) (Nat.le_of_ble_eq_true rfl) (by omega) (Nat.zero_le _) (Nat.zero_le _) ?_
  refine tr_c246 hE ⟨by decide, by decide⟩ ⟨by decide, by decide⟩ hp (fun j1 j2 j3 => ?_) (fun j1 => ?_)
  · show gm_Wp X LX d _ _ 256 15 _ [gm_vi 1] n K R _ Q
    have j1 : pt < e := j1
    have j2 : 48 ≤ M 231 pt := j2
    have j3 : M 231 pt ≤ 57 := j3
    refine fw_iffd (cc := .eq) (pc := 15) (off := 54) (by decide +kernel) (by decide) ⟨by decide, by decide⟩ (by decide) ?_
    refine gm_sz (gm_p_load (pc := 18) (i := .aload_n 0) (sr := 2) (j := 0) (by decide +kernel) rfl rfl rfl) ?_
    refine gm_sz (fw_gi (pc := 19) (ix := 106) (ci := 11) (j := 9) (x := pt) (by decide +kernel) (tR226 hE) (by decide +kernel) (by decide +kernel) rfl) ?_
    refine gm_sz (gm_p_load (pc := 22) (i := .aload_n 0) (sr := 2) (j := 0) (by decide +kernel) rfl rfl rfl) ?_
    refine gm_sz (fw_gi (pc := 23) (ix := 116) (ci := 11) (j := 11) (x := B) (by decide +kernel) (tR226 hE) (by decide +kernel) (by decide +kernel) rfl) ?_
    refine gm_sz (gm_p_bin (pc := 26) (i := .isub) (f := fun x y => x - y) (by decide +kernel) rfl) ?_
    refine gm_sz (gm_p_load (pc := 27) (i := .iload_n 3) (sr := 0) (j := 3) (by decide +kernel) rfl rfl rfl) ?_
    refine fw_ic (cc := .ge) (pc := 28) (off := 24) (by decide +kernel) (by decide) ⟨by omega, by omega⟩ ⟨by omega, by omega⟩ (fun j4 => ?_) (fun j4 => ?_)
    · have j4 : m ≤ (pt - B) := j4
      refine gm_sz (gm_p_load (pc := 52) (i := .iload 4) (sr := 0) (j := 4) (by decide +kernel) rfl rfl rfl) ?_
      refine gm_sz (gm_p_stor (pc := 54) (i := .istore 4) (sr := 0) (j := 4) (by decide +kernel) rfl (show 5 ≤ _ from Nat.le_of_ble_eq_true rfl) rfl) ?_
      refine gm_sz (gm_p_load (pc := 56) (i := .aload_n 0) (sr := 2) (j := 0) (by decide +kernel) rfl rfl rfl) ?_
      refine gm_sz (gm_p_dup (pc := 57) (by decide +kernel) fw_sr) ?_
      refine gm_sz (fw_gi (pc := 58) (ix := 106) (ci := 11) (j := 9) (x := pt) (by decide +kernel) (tR226 hE) (by decide +kernel) (by decide +kernel) rfl) ?_
      refine gm_sz (gm_p_const (pc := 61) (i := .iconst 1) (v := gm_vi 1) (by decide +kernel) (by decide +kernel)) ?_
      refine gm_sz (gm_p_bin (pc := 62) (i := .iadd) (f := fun x y => x + y) (by decide +kernel) rfl) ?_
      refine gm_sz (fw_pi (pc := 63) (ix := 106) (ci := 11) (j := 9) (M' := rm M (pt + 1) B dp st W) (by decide +kernel) (tR226 hE) (by decide +kernel) (by decide +kernel) (by decide +kernel) rm_pt) ?_
      refine gm_sz (gm_p_goto (pc := 66) (off := (-59)) (by decide +kernel) (by decide)) ?_
      have hdg : tx_d (M 231) pt = true := decide_eq_true (by omega)
      rw [tx_rt (by omega) hdg, tx_ut (by omega) hdg] at kq
      rw [if_neg (show ¬ (pt - B < m ∧ ¬ (if pt - B ≤ m then v else -1) = -1) by omega)] at kq
      refine ih (by omega) v (by omega) ?_ ?_
      · rw [if_neg (show ¬ pt + 1 - B ≤ m by omega)]
        by_cases hc : pt - B ≤ m
        · rw [if_pos hc, show pt - B = m by omega] at hv
          exact hv
        · rw [if_neg hc] at hv
          exact hv
      · rw [if_neg (show ¬ pt + 1 - B ≤ m by omega)]
        exact kq
    · have j4 : ¬ m ≤ (pt - B) := j4
      refine gm_sz (gm_p_const (pc := 31) (i := .bipush 10) (v := gm_vi 10) (by decide +kernel) (by decide +kernel)) ?_
      refine gm_sz (gm_p_load (pc := 33) (i := .iload 4) (sr := 0) (j := 4) (by decide +kernel) rfl rfl rfl) ?_
      refine gm_sz (gm_p_bin (pc := 35) (i := .imul) (f := fun x y => x * y) (by decide +kernel) rfl) ?_
      refine gm_sz (gm_p_load (pc := 36) (i := .aload_n 0) (sr := 2) (j := 0) (by decide +kernel) rfl rfl rfl) ?_
      refine gm_sz (fw_gr (pc := 37) (ix := 26) (ci := 11) (j := 7) (r := 231) (by decide +kernel) (tR226 hE) (by decide +kernel) (by decide +kernel) (tRr hE).2) ?_
      refine gm_sz (gm_p_load (pc := 40) (i := .aload_n 0) (sr := 2) (j := 0) (by decide +kernel) rfl rfl rfl) ?_
      refine gm_sz (fw_gi (pc := 41) (ix := 106) (ci := 11) (j := 9) (x := pt) (by decide +kernel) (tR226 hE) (by decide +kernel) (by decide +kernel) rfl) ?_
      refine gm_sz (fw_ba (pc := 44) (k := 231) (len := 400) (e0 := pt) (x := M 231 pt) (by decide +kernel) (tR231 hE).1 (tR231 hE).2 (by decide) ⟨by omega, by omega⟩ rfl) ?_
      have y5 := tRb hE (j := pt) (by omega) (by omega)
      refine gm_sz (gm_p_bin (pc := 45) (i := .iadd) (f := fun x y => x + y) (by decide +kernel) rfl) ?_
      refine gm_sz (gm_p_const (pc := 46) (i := .bipush 48) (v := gm_vi 48) (by decide +kernel) (by decide +kernel)) ?_
      refine gm_sz (gm_p_bin (pc := 48) (i := .isub) (f := fun x y => x - y) (by decide +kernel) rfl) ?_
      refine gm_sz (gm_p_goto (pc := 49) (off := 5) (by decide +kernel) (by decide)) ?_
      refine gm_sz (gm_p_stor (pc := 54) (i := .istore 4) (sr := 0) (j := 4) (by decide +kernel) rfl (show 5 ≤ _ from Nat.le_of_ble_eq_true rfl) rfl) ?_
      refine gm_sz (gm_p_load (pc := 56) (i := .aload_n 0) (sr := 2) (j := 0) (by decide +kernel) rfl rfl rfl) ?_
      refine gm_sz (gm_p_dup (pc := 57) (by decide +kernel) fw_sr) ?_
      refine gm_sz (fw_gi (pc := 58) (ix := 106) (ci := 11) (j := 9) (x := pt) (by decide +kernel) (tR226 hE) (by decide +kernel) (by decide +kernel) rfl) ?_
      refine gm_sz (gm_p_const (pc := 61) (i := .iconst 1) (v := gm_vi 1) (by decide +kernel) (by decide +kernel)) ?_
      refine gm_sz (gm_p_bin (pc := 62) (i := .iadd) (f := fun x y => x + y) (by decide +kernel) rfl) ?_
      refine gm_sz (fw_pi (pc := 63) (ix := 106) (ci := 11) (j := 9) (M' := rm M (pt + 1) B dp st W) (by decide +kernel) (tR226 hE) (by decide +kernel) (by decide +kernel) (by decide +kernel) rm_pt) ?_
      refine gm_sz (gm_p_goto (pc := 66) (off := (-59)) (by decide +kernel) (by decide)) ?_
      have hdg : tx_d (M 231) pt = true := decide_eq_true (by omega)
      rw [tx_rt (by omega) hdg, tx_ut (by omega) hdg] at kq
      rw [if_pos (show pt - B ≤ m by omega)] at hv kq
      rw [if_pos (show pt - B < m ∧ ¬ v = -1 by omega)] at kq
      have t := tx_tv (v := v) (k := pt - B) (c := M 231 pt) hv (by omega) (by omega)
      rw [show v * 10 + M 231 pt - 48 = 10 * v + M 231 pt - 48 by omega] at t kq
      refine ih (by omega) _ (by omega) ?_ ?_
      · rw [if_pos (show pt + 1 - B ≤ m by omega), show pt + 1 - B = pt - B + 1 by omega]
        exact t
      · rw [if_pos (show pt + 1 - B ≤ m by omega)]
        exact kq
  · show gm_Wp X LX d _ _ 256 15 _ [gm_vi 0] n K R _ Q
    have j1 : ¬ (pt < e ∧ 48 ≤ M 231 pt ∧ M 231 pt ≤ 57) := j1
    refine fw_iftd (cc := .eq) (pc := 15) (off := 54) (by decide +kernel) (by decide) ⟨by decide, by decide⟩ (by decide) ?_
    refine kq v pt (by omega) hpe (tx_rf (fun h h2 => by have := of_decide_eq_true h2; omega)).symm ⟨hv.1, by omega⟩ ?_
    rw [tx_uf (fun h h2 => by have := of_decide_eq_true h2; omega)]
theorem tr_c256 {m : Int} (hd : 2 ≤ d) (hE : tR n K R M e) (hm : 1 ≤ m ∧ m ≤ 4) (hlo : 0 ≤ lo ∧ lo < 2147483648) (hhi : gm_ir hi) (hp : 0 ≤ pt ∧ pt ≤ e) (hg : tx_g (M 231) e pt = b) (h1 : tx_k (M 231) e b = 258 ∧ lo ≤ tx_v (M 231) e m b ∧ tx_v (M 231) e m b ≤ hi → Q (.inl (some (gm_vi (tx_v (M 231) e m b)))) n K R (rm M (tx_s (M 231) e b) b dp st W)) (h0 : ¬ (tx_k (M 231) e b = 258 ∧ lo ≤ tx_v (M 231) e m b ∧ tx_v (M 231) e m b ≤ hi) → ∀ p2, Q (.inl (some (gm_vi (-1)))) n K R (rm M p2 b dp st W)) : gm_Wp X LX d bc bs 256 0 (gm_ent 256 [gm_vr 226, gm_vi lo, gm_vi hi, gm_vi m]) [] n K R (rm M pt bg dp st W) Q := by
  subst hg
  obtain ⟨-, he0, he4⟩ := tRe hE
  obtain ⟨hhi1, hhi2⟩ := hhi
  obtain ⟨hlo1, hlo2⟩ := hlo
  refine gm_sz (gm_p_load (pc := 0) (i := .aload_n 0) (sr := 2) (j := 0) (by decide +kernel) rfl rfl rfl) ?_
  refine gm_c_virt (k := 226) (ci := 11) (mj := 245) (ix := 119) (pc := 1) (as := []) (st := []) (d' := d - 1) (bc' := 0) (bs' := 0) (by decide +kernel) (by decide +kernel) (by decide +kernel) (by decide +kernel) (tR226 hE).1 (tR226 hE).2 (by decide) (by decide +kernel) (show 0 = gm_na 245 by decide +kernel) fw_c0 (show 1 ≤ gm_ml 245 by decide +kernel) (Nat.le_of_ble_eq_true rfl) (by omega) (Nat.zero_le _) (Nat.zero_le _) ?_
  refine tr_c245 (by omega) hE hp rfl ?_
  show gm_Wp X LX d _ _ 256 4 _ [] n K R _ Q
  have g1 : 0 ≤ tx_g (M 231) e pt ∧ tx_g (M 231) e pt ≤ e := by have := tx_gb (f := M 231) hp.2; have := hp.1; omega
  have q2 : tx_g (M 231) e (tx_g (M 231) e pt) = tx_g (M 231) e pt := by rw [← (rfl : tx_g (M 231) e pt = tx_g (M 231) e pt)]; exact tx_gi hp.2
  refine gm_sz (gm_p_const (pc := 4) (i := .iconst 0) (v := gm_vi 0) (by decide +kernel) (by decide +kernel)) ?_
  refine gm_sz (gm_p_stor (pc := 5) (i := .istore 4) (sr := 0) (j := 4) (by decide +kernel) rfl (show 5 ≤ _ from Nat.le_of_ble_eq_true rfl) rfl) ?_
  have hg := g1
  generalize tx_g (M 231) e pt = B at *
  refine tr_n2 (by omega) hE hm ⟨by omega, hlo2⟩ ⟨hhi1, hhi2⟩ hg.1 B hg.1 hg.2 0 (Int.le_refl _) ⟨Int.le_refl _, by have := (tx_tb (k := if B - B ≤ m then B - B else m)).1; omega⟩ (fun v2 p2 hb2 hp2 hr hv2 hu => ?_)
  rw [if_pos (show B - B ≤ m by omega)] at hu
  have key : (tx_k (M 231) e B = 258 ∧ B < p2 ∧ tx_s (M 231) e B = p2 ∧ ((p2 - B ≤ m ∧ tx_v (M 231) e m B = v2) ∨ (m < p2 - B ∧ tx_v (M 231) e m B = -1))) ∨ (¬ tx_k (M 231) e B = 258 ∧ p2 = B) := by
    by_cases h5 : B < e ∧ 48 ≤ M 231 B ∧ M 231 B ≤ 57
    · obtain ⟨t1, t2, t3⟩ := tx_k2 (f := M 231) (m := m) h5.1 h5.2
      have t4 := tx_rs (q := tx_d (M 231)) h5.1 (decide_eq_true h5.2)
      by_cases h6 : p2 - B ≤ m
      · rw [if_pos h6] at hu
        exact Or.inl ⟨t1, by omega, by omega, Or.inl ⟨h6, t3.trans hu.symm⟩⟩
      · rw [if_neg h6] at hu
        exact Or.inl ⟨t1, by omega, by omega, Or.inr ⟨by omega, t3.trans hu.symm⟩⟩
    · refine Or.inr ⟨fun h6 => ?_, ?_⟩
      · have h7 := tx_kne (f := M 231) (e := e) (b := B) (by omega)
        by_cases h8 : 97 ≤ M 231 B ∧ M 231 B ≤ 122
        · have := (tx_k1 (m := 0) h7 h8).1
          omega
        · have := (tx_k3 (f := M 231) (m := 0) h7 h8 (fun h => h5 ⟨h7, h⟩)).1
          omega
      · rw [hr]
        exact tx_rf (fun h h2 => h5 ⟨h, of_decide_eq_true h2⟩)
  clear hu hr
  refine gm_sz (gm_p_load (pc := 69) (i := .aload_n 0) (sr := 2) (j := 0) (by decide +kernel) rfl rfl rfl) ?_
  refine gm_sz (fw_gi (pc := 70) (ix := 106) (ci := 11) (j := 9) (x := p2) (by decide +kernel) (tR226 hE) (by decide +kernel) (by decide +kernel) rfl) ?_
  refine gm_sz (gm_p_load (pc := 73) (i := .aload_n 0) (sr := 2) (j := 0) (by decide +kernel) rfl rfl rfl) ?_
  refine gm_sz (fw_gi (pc := 74) (ix := 116) (ci := 11) (j := 11) (x := B) (by decide +kernel) (tR226 hE) (by decide +kernel) (by decide +kernel) rfl) ?_
  refine fw_ic (cc := .eq) (pc := 77) (off := 28) (by decide +kernel) (by decide) ⟨by omega, by omega⟩ ⟨by omega, by omega⟩ (fun j1 => ?_) (fun j1 => ?_)
  · have j1 : p2 = B := j1
    refine gm_sz (gm_p_const (pc := 105) (i := .iconst (-1)) (v := gm_vi (-1)) (by decide +kernel) (by decide +kernel)) ?_
    refine gm_sz (gm_p_goto (pc := 106) (off := 5) (by decide +kernel) (by decide)) ?_
    exact gm_r_int (pc := 111) (by decide +kernel) (Or.inl (by decide +kernel)) (h0 (by omega) p2)
  · have j1 : ¬ p2 = B := j1
    refine gm_sz (gm_p_load (pc := 80) (i := .aload_n 0) (sr := 2) (j := 0) (by decide +kernel) rfl rfl rfl) ?_
    refine gm_sz (fw_gi (pc := 81) (ix := 106) (ci := 11) (j := 9) (x := p2) (by decide +kernel) (tR226 hE) (by decide +kernel) (by decide +kernel) rfl) ?_
    refine gm_sz (gm_p_load (pc := 84) (i := .aload_n 0) (sr := 2) (j := 0) (by decide +kernel) rfl rfl rfl) ?_
    refine gm_sz (fw_gi (pc := 85) (ix := 116) (ci := 11) (j := 11) (x := B) (by decide +kernel) (tR226 hE) (by decide +kernel) (by decide +kernel) rfl) ?_
    refine gm_sz (gm_p_bin (pc := 88) (i := .isub) (f := fun x y => x - y) (by decide +kernel) rfl) ?_
    refine gm_sz (gm_p_load (pc := 89) (i := .iload_n 3) (sr := 0) (j := 3) (by decide +kernel) rfl rfl rfl) ?_
    refine fw_ic (cc := .gt) (pc := 90) (off := 15) (by decide +kernel) (by decide) ⟨by omega, by omega⟩ ⟨by omega, by omega⟩ (fun j2 => ?_) (fun j2 => ?_)
    · have j2 : m < (p2 - B) := j2
      refine gm_sz (gm_p_const (pc := 105) (i := .iconst (-1)) (v := gm_vi (-1)) (by decide +kernel) (by decide +kernel)) ?_
      refine gm_sz (gm_p_goto (pc := 106) (off := 5) (by decide +kernel) (by decide)) ?_
      exact gm_r_int (pc := 111) (by decide +kernel) (Or.inl (by decide +kernel)) (h0 (by omega) p2)
    · have j2 : ¬ m < (p2 - B) := j2
      refine gm_sz (gm_p_load (pc := 93) (i := .iload 4) (sr := 0) (j := 4) (by decide +kernel) rfl rfl rfl) ?_
      refine gm_sz (gm_p_load (pc := 95) (i := .iload_n 1) (sr := 0) (j := 1) (by decide +kernel) rfl rfl rfl) ?_
      refine fw_ic (cc := .lt) (pc := 96) (off := 9) (by decide +kernel) (by decide) ⟨by omega, by omega⟩ ⟨by omega, by omega⟩ (fun j3 => ?_) (fun j3 => ?_)
      · have j3 : v2 < lo := j3
        refine gm_sz (gm_p_const (pc := 105) (i := .iconst (-1)) (v := gm_vi (-1)) (by decide +kernel) (by decide +kernel)) ?_
        refine gm_sz (gm_p_goto (pc := 106) (off := 5) (by decide +kernel) (by decide)) ?_
        exact gm_r_int (pc := 111) (by decide +kernel) (Or.inl (by decide +kernel)) (h0 (by omega) p2)
      · have j3 : ¬ v2 < lo := j3
        refine gm_sz (gm_p_load (pc := 99) (i := .iload 4) (sr := 0) (j := 4) (by decide +kernel) rfl rfl rfl) ?_
        refine gm_sz (gm_p_load (pc := 101) (i := .iload_n 2) (sr := 0) (j := 2) (by decide +kernel) rfl rfl rfl) ?_
        refine fw_ic (cc := .le) (pc := 102) (off := 7) (by decide +kernel) (by decide) ⟨by omega, by omega⟩ ⟨by omega, by omega⟩ (fun j4 => ?_) (fun j4 => ?_)
        · have j4 : v2 ≤ hi := j4
          refine gm_sz (gm_p_load (pc := 109) (i := .iload 4) (sr := 0) (j := 4) (by decide +kernel) rfl rfl rfl) ?_
          have h1 := h1 (by omega)
          rw [show tx_v (M 231) e m B = v2 by omega, show tx_s (M 231) e B = p2 by omega] at h1
          exact gm_r_int (pc := 111) (by decide +kernel) (Or.inl (by decide +kernel)) h1
        · have j4 : ¬ v2 ≤ hi := j4
          refine gm_sz (gm_p_const (pc := 105) (i := .iconst (-1)) (v := gm_vi (-1)) (by decide +kernel) (by decide +kernel)) ?_
          refine gm_sz (gm_p_goto (pc := 106) (off := 5) (by decide +kernel) (by decide)) ?_
          exact gm_r_int (pc := 111) (by decide +kernel) (Or.inl (by decide +kernel)) (h0 (by omega) p2)
theorem tr_c279 {x y : Int} (hE : tR n K R M e) (hs : 0 ≤ st ∧ st ≤ 399) (hq : ∀ W2, Q (.inl none) n K R (rm M pt bg dp (st + 1) W2)) : gm_Wp X LX d bc bs 279 0 (gm_ent 279 [gm_vr 226, gm_vi x, gm_vi y]) [] n K R (rm M pt bg dp st W) Q := by
  refine gm_sz (gm_p_load (pc := 0) (i := .aload_n 0) (sr := 2) (j := 0) (by decide +kernel) rfl rfl rfl) ?_
  refine gm_sz (fw_gr (pc := 1) (ix := 13) (ci := 11) (j := 1) (r := 227) (by decide +kernel) (tR226 hE) (by decide +kernel) (by decide +kernel) (tRr hE).1) ?_
  refine gm_sz (gm_p_const (pc := 4) (i := .sipush 1293) (v := gm_vi 1293) (by decide +kernel) (by decide +kernel)) ?_
  refine gm_sz (gm_p_const (pc := 7) (i := .iconst 2) (v := gm_vi 2) (by decide +kernel) (by decide +kernel)) ?_
  refine gm_sz (gm_p_load (pc := 8) (i := .aload_n 0) (sr := 2) (j := 0) (by decide +kernel) rfl rfl rfl) ?_
  refine gm_sz (fw_gi (pc := 9) (ix := 224) (ci := 11) (j := 15) (x := st) (by decide +kernel) (tR226 hE) (by decide +kernel) (by decide +kernel) rfl) ?_
  refine gm_sz (gm_p_bin (pc := 12) (i := .imul) (f := fun x y => x * y) (by decide +kernel) rfl) ?_
  refine gm_sz (gm_p_bin (pc := 13) (i := .iadd) (f := fun x y => x + y) (by decide +kernel) rfl) ?_
  refine gm_sz (gm_p_load (pc := 14) (i := .iload_n 1) (sr := 0) (j := 1) (by decide +kernel) rfl rfl rfl) ?_
  refine gm_sz (fw_is (pc := 15) (k := 227) (len := 2093) (e0 := 1293 + (2 * st)) (x := x) (M' := rm M pt bg dp st (fun t9 => if t9 = 1293 + (2 * st) then x else W t9)) (by decide +kernel) (tR227 hE).1 (tR227 hE).2 (by decide) ⟨by omega, by omega⟩ rm_W) ?_
  refine gm_sz (gm_p_load (pc := 16) (i := .aload_n 0) (sr := 2) (j := 0) (by decide +kernel) rfl rfl rfl) ?_
  refine gm_sz (fw_gr (pc := 17) (ix := 13) (ci := 11) (j := 1) (r := 227) (by decide +kernel) (tR226 hE) (by decide +kernel) (by decide +kernel) (tRr hE).1) ?_
  refine gm_sz (gm_p_const (pc := 20) (i := .sipush 1293) (v := gm_vi 1293) (by decide +kernel) (by decide +kernel)) ?_
  refine gm_sz (gm_p_const (pc := 23) (i := .iconst 2) (v := gm_vi 2) (by decide +kernel) (by decide +kernel)) ?_
  refine gm_sz (gm_p_load (pc := 24) (i := .aload_n 0) (sr := 2) (j := 0) (by decide +kernel) rfl rfl rfl) ?_
  refine gm_sz (fw_gi (pc := 25) (ix := 224) (ci := 11) (j := 15) (x := st) (by decide +kernel) (tR226 hE) (by decide +kernel) (by decide +kernel) rfl) ?_
  refine gm_sz (gm_p_bin (pc := 28) (i := .imul) (f := fun x y => x * y) (by decide +kernel) rfl) ?_
  refine gm_sz (gm_p_bin (pc := 29) (i := .iadd) (f := fun x y => x + y) (by decide +kernel) rfl) ?_
  refine gm_sz (gm_p_const (pc := 30) (i := .iconst 1) (v := gm_vi 1) (by decide +kernel) (by decide +kernel)) ?_
  refine gm_sz (gm_p_bin (pc := 31) (i := .iadd) (f := fun x y => x + y) (by decide +kernel) rfl) ?_
  refine gm_sz (gm_p_load (pc := 32) (i := .iload_n 2) (sr := 0) (j := 2) (by decide +kernel) rfl rfl rfl) ?_
  refine gm_sz (fw_is (pc := 33) (k := 227) (len := 2093) (e0 := (1293 + (2 * st)) + 1) (x := y) (M' := rm M pt bg dp st (fun t9 => if t9 = (1293 + (2 * st)) + 1 then y else (fun t9 => if t9 = 1293 + (2 * st) then x else W t9) t9)) (by decide +kernel) (tR227 hE).1 (tR227 hE).2 (by decide) ⟨by omega, by omega⟩ rm_W) ?_
  refine gm_sz (gm_p_load (pc := 34) (i := .aload_n 0) (sr := 2) (j := 0) (by decide +kernel) rfl rfl rfl) ?_
  refine gm_sz (gm_p_dup (pc := 35) (by decide +kernel) fw_sr) ?_
  refine gm_sz (fw_gi (pc := 36) (ix := 224) (ci := 11) (j := 15) (x := st) (by decide +kernel) (tR226 hE) (by decide +kernel) (by decide +kernel) rfl) ?_
  refine gm_sz (gm_p_const (pc := 39) (i := .iconst 1) (v := gm_vi 1) (by decide +kernel) (by decide +kernel)) ?_
  refine gm_sz (gm_p_bin (pc := 40) (i := .iadd) (f := fun x y => x + y) (by decide +kernel) rfl) ?_
  refine gm_sz (fw_pi (pc := 41) (ix := 224) (ci := 11) (j := 15) (M' := rm M pt bg dp (st + 1) (fun t9 => if t9 = (1293 + (2 * st)) + 1 then y else (fun t9 => if t9 = 1293 + (2 * st) then x else W t9) t9)) (by decide +kernel) (tR226 hE) (by decide +kernel) (by decide +kernel) (by decide +kernel) rm_st) ?_
  exact gm_r_void (pc := 44) (by decide +kernel) (by decide +kernel) (hq _)
end RW
