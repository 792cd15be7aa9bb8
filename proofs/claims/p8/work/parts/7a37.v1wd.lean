/-! THE WORDS OF THE CLASS'S READER OF A VALLEY (laid by wip/core/v1.py out of p5's texts). -/
noncomputable def vm (M : gm_M) (p b w k v : Int) : gm_M := fun a j => if a = 214 then (if j = 3 then p else if j = 4 then b else if j = 5 then w else if j = 6 then k else if j = 7 then v else M a j) else M a j
/-- as it stands on a token -/
noncomputable def vt (M : gm_M) (e b w : Int) : gm_M := vm M (tx_s (M 2) e b) b w (tx_k (M 2) e b) (tx_v (M 2) e 4 b)
section VM
variable {M : gm_M} {e p b w k v x : Int}
theorem vm_p : gm_uM (vm M p b w k v) 214 ((3 : Nat) : Int) x = vm M x b w k v := by
  show gm_uM (vm M p b w k v) 214 3 x = vm M x b w k v
  funext a j
  by_cases ha : a = 214 <;> by_cases hj : j = 3 <;> simp [gm_uM, vm, ha, hj]
theorem vm_b : gm_uM (vm M p b w k v) 214 ((4 : Nat) : Int) x = vm M p x w k v := by
  show gm_uM (vm M p b w k v) 214 4 x = vm M p x w k v
  funext a j
  by_cases ha : a = 214 <;> by_cases hj : j = 4 <;> simp [gm_uM, vm, ha, hj]
theorem vm_w : gm_uM (vm M p b w k v) 214 ((5 : Nat) : Int) x = vm M p b x k v := by
  show gm_uM (vm M p b w k v) 214 5 x = vm M p b x k v
  funext a j
  by_cases ha : a = 214 <;> by_cases hj : j = 5 <;> simp [gm_uM, vm, ha, hj]
theorem vm_k : gm_uM (vm M p b w k v) 214 ((6 : Nat) : Int) x = vm M p b w x v := by
  show gm_uM (vm M p b w k v) 214 6 x = vm M p b w x v
  funext a j
  by_cases ha : a = 214 <;> by_cases hj : j = 6 <;> simp [gm_uM, vm, ha, hj]
theorem vm_v : gm_uM (vm M p b w k v) 214 ((7 : Nat) : Int) x = vm M p b w k x := by
  show gm_uM (vm M p b w k v) 214 7 x = vm M p b w k x
  funext a j
  by_cases ha : a = 214 <;> by_cases hj : j = 7 <;> simp [gm_uM, vm, ha, hj]
theorem vt_w : gm_uM (vt M e b w) 214 ((5 : Nat) : Int) x = vt M e b x := vm_w
theorem vm_id : vm M (M 214 3) (M 214 4) (M 214 5) (M 214 6) (M 214 7) = M := by
  funext a j
  unfold vm
  by_cases h1 : a = 214
  · subst h1
    by_cases g1 : j = 3
    · subst g1; rfl
    by_cases g2 : j = 4
    · subst g2; rfl
    by_cases g3 : j = 5
    · subst g3; rfl
    by_cases g4 : j = 6
    · subst g4; rfl
    by_cases g5 : j = 7
    · subst g5; rfl
    rw [if_pos rfl, if_neg g1, if_neg g2, if_neg g3, if_neg g4, if_neg g5]
  · rw [if_neg h1]
end VM
/-- what stays while a valley's text is read -/
noncomputable def vE (n : Nat) (K : gm_K) (R : gm_R) (M : gm_M) (e : Int) : Prop := (((1 ≤ 2 ∧ 2 ≤ n) ∧ K 2 = (1, 400)) ∧ (1 ≤ 214 ∧ 214 ≤ n) ∧ K 214 = (12, 0)) ∧ (R 214 0 = 2 ∧ M 214 1 = 4) ∧ (M 214 2 = e ∧ 0 ≤ e ∧ e ≤ 400) ∧ ∀ j, 0 ≤ j → j < 400 → -128 ≤ M 2 j ∧ M 2 j ≤ 127
section VE
variable {n : Nat} {K : gm_K} {R : gm_R} {M : gm_M} {e : Int}
theorem vE2 (h : vE n K R M e) : (1 ≤ 2 ∧ 2 ≤ n) ∧ K 2 = (1, 400) := h.1.1
theorem vE214 (h : vE n K R M e) : (1 ≤ 214 ∧ 214 ≤ n) ∧ (K 214).1 = 8 + 4 := ⟨h.1.2.1, by rw [h.1.2.2]⟩
theorem vEe (h : vE n K R M e) : M 214 2 = e ∧ 0 ≤ e ∧ e ≤ 400 := h.2.2.1
theorem vEb (h : vE n K R M e) {j : Int} (h1 : 0 ≤ j) (h2 : j < 400) : -128 ≤ M 2 j ∧ M 2 j ≤ 127 := h.2.2.2 j h1 h2
end VE
section VW
variable {X : Int → Int} {LX d bc bs n : Nat} {K : gm_K} {R : gm_R} {M : gm_M} {Q : gm_Q} {e p b w k v x : Int}
theorem vx_n0 (hd : 1 ≤ d) (hE : vE n K R M e) : ∀ p, 0 ≤ p → p ≤ e → gm_Wp X LX d bc bs 76 38 [some (gm_vr 214), none] [] n K R (vm M (tx_g (M 2) e p) b w k v) Q → gm_Wp X LX d bc bs 76 0 [some (gm_vr 214), none] [] n K R (vm M p b w k v) Q := by
  obtain ⟨-, he0, he4⟩ := vEe hE
  refine fw_ind (fun p hp0 hpe ih kq => ?_)
  refine gm_sz (gm_p_load (pc := 0) (i := .aload_n 0) (sr := 2) (j := 0) (by decide +kernel) rfl rfl rfl) ?_
  refine gm_sz (fw_gi (pc := 1) (ix := 15) (ci := 8) (j := 3) (x := p) (by decide +kernel) (vE214 hE) (by decide +kernel) (by decide +kernel) rfl) ?_
  refine gm_sz (gm_p_load (pc := 4) (i := .aload_n 0) (sr := 2) (j := 0) (by decide +kernel) rfl rfl rfl) ?_
  refine gm_sz (fw_gi (pc := 5) (ix := 9) (ci := 8) (j := 2) (x := e) (by decide +kernel) (vE214 hE) (by decide +kernel) (by decide +kernel) (vEe hE).1) ?_
  refine fw_ic (cc := .ge) (pc := 8) (off := 30) (by decide +kernel) (by decide) ⟨by omega, by omega⟩ ⟨by omega, by omega⟩ (fun j1 => ?_) (fun j1 => ?_)
  · have j1 : e ≤ p := j1
    rw [tx_gg (fun h => by omega)] at kq
    exact kq
  · have j1 : ¬ e ≤ p := j1
    refine gm_sz (gm_p_load (pc := 11) (i := .aload_n 0) (sr := 2) (j := 0) (by decide +kernel) rfl rfl rfl) ?_
    refine gm_sz (fw_gr (pc := 12) (ix := 30) (ci := 8) (j := 0) (r := 2) (by decide +kernel) (vE214 hE) (by decide +kernel) (by decide +kernel) (show R 214 0 = 2 ∧ M 214 1 = 4 from hE.2.1).1) ?_
    refine gm_sz (gm_p_load (pc := 15) (i := .aload_n 0) (sr := 2) (j := 0) (by decide +kernel) rfl rfl rfl) ?_
    refine gm_sz (fw_gi (pc := 16) (ix := 15) (ci := 8) (j := 3) (x := p) (by decide +kernel) (vE214 hE) (by decide +kernel) (by decide +kernel) rfl) ?_
    refine gm_sz (fw_ba (pc := 19) (k := 2) (len := 400) (e0 := p) (x := M 2 p) (by decide +kernel) (vE2 hE).1 (vE2 hE).2 (by decide) ⟨by omega, by omega⟩ rfl) ?_
    have y2 := vEb hE (j := p) (by omega) (by omega)
    refine gm_sz (gm_p_const (pc := 20) (i := .bipush 32) (v := gm_vi 32) (by decide +kernel) (by decide +kernel)) ?_
    refine fw_ic (cc := .ne) (pc := 22) (off := 16) (by decide +kernel) (by decide) ⟨by omega, by omega⟩ ⟨by decide, by decide⟩ (fun j3 => ?_) (fun j3 => ?_)
    · have j3 : ¬ (M 2 p) = 32 := j3
      rw [tx_gg (fun h => by omega)] at kq
      exact kq
    · have j3 : (M 2 p) = 32 := Classical.not_not.mp j3
      refine gm_sz (gm_p_load (pc := 25) (i := .aload_n 0) (sr := 2) (j := 0) (by decide +kernel) rfl rfl rfl) ?_
      refine gm_sz (gm_p_dup (pc := 26) (by decide +kernel) fw_sr) ?_
      refine gm_sz (fw_gi (pc := 27) (ix := 15) (ci := 8) (j := 3) (x := p) (by decide +kernel) (vE214 hE) (by decide +kernel) (by decide +kernel) rfl) ?_
      refine gm_sz (gm_p_const (pc := 30) (i := .iconst 1) (v := gm_vi 1) (by decide +kernel) (by decide +kernel)) ?_
      refine gm_sz (gm_p_bin (pc := 31) (i := .iadd) (f := fun x y => x + y) (by decide +kernel) rfl) ?_
      refine gm_sz (fw_pi (pc := 32) (ix := 15) (ci := 8) (j := 3) (M' := vm M (p + 1) b w k v) (by decide +kernel) (vE214 hE) (by decide +kernel) (by decide +kernel) (by decide +kernel) vm_p) ?_
      refine gm_sz (gm_p_goto (pc := 35) (off := (-35)) (by decide +kernel) (by decide)) ?_
      rw [tx_gt (by omega) (by omega)] at kq
      exact ih (by omega) kq

theorem vx_n1 (hd : 1 ≤ d) (hE : vE n K R M e) : ∀ p, 0 ≤ p → p ≤ e → gm_Wp X LX d bc bs 76 288 [some (gm_vr 214), none] [] n K R (vm M (tx_r (tx_l (M 2)) e p) b w k v) Q → gm_Wp X LX d bc bs 76 94 [some (gm_vr 214), none] [] n K R (vm M p b w k v) Q := by
  obtain ⟨-, he0, he4⟩ := vEe hE
  refine fw_ind (fun p hp0 hpe ih kq => ?_)
  refine gm_sz (gm_p_load (pc := 94) (i := .aload_n 0) (sr := 2) (j := 0) (by decide +kernel) rfl rfl rfl) ?_
  refine gm_sz (fw_gi (pc := 95) (ix := 15) (ci := 8) (j := 3) (x := p) (by decide +kernel) (vE214 hE) (by decide +kernel) (by decide +kernel) rfl) ?_
  refine gm_sz (gm_p_load (pc := 98) (i := .aload_n 0) (sr := 2) (j := 0) (by decide +kernel) rfl rfl rfl) ?_
  refine gm_sz (fw_gi (pc := 99) (ix := 9) (ci := 8) (j := 2) (x := e) (by decide +kernel) (vE214 hE) (by decide +kernel) (by decide +kernel) (vEe hE).1) ?_
  refine fw_ic (cc := .ge) (pc := 102) (off := 186) (by decide +kernel) (by decide) ⟨by omega, by omega⟩ ⟨by omega, by omega⟩ (fun j1 => ?_) (fun j1 => ?_)
  · have j1 : e ≤ p := j1
    rw [tx_rf (fun h h2 => by have := of_decide_eq_true h2; omega)] at kq
    exact kq
  · have j1 : ¬ e ≤ p := j1
    refine gm_sz (gm_p_load (pc := 105) (i := .aload_n 0) (sr := 2) (j := 0) (by decide +kernel) rfl rfl rfl) ?_
    refine gm_sz (fw_gr (pc := 106) (ix := 30) (ci := 8) (j := 0) (r := 2) (by decide +kernel) (vE214 hE) (by decide +kernel) (by decide +kernel) (show R 214 0 = 2 ∧ M 214 1 = 4 from hE.2.1).1) ?_
    refine gm_sz (gm_p_load (pc := 109) (i := .aload_n 0) (sr := 2) (j := 0) (by decide +kernel) rfl rfl rfl) ?_
    refine gm_sz (fw_gi (pc := 110) (ix := 15) (ci := 8) (j := 3) (x := p) (by decide +kernel) (vE214 hE) (by decide +kernel) (by decide +kernel) rfl) ?_
    refine gm_sz (fw_ba (pc := 113) (k := 2) (len := 400) (e0 := p) (x := M 2 p) (by decide +kernel) (vE2 hE).1 (vE2 hE).2 (by decide) ⟨by omega, by omega⟩ rfl) ?_
    have y2 := vEb hE (j := p) (by omega) (by omega)
    refine gm_c_stat (mj := 77) (ix := 46) (pc := 114) (as := [gm_vi (M 2 p)]) (st := []) (d' := d - 1) (bc' := 0) (bs' := 0) (by decide +kernel) (by decide +kernel) (by decide +kernel) (by decide +kernel) (show 1 = gm_na 77 by decide +kernel) (fw_c1 fw_si) (show 1 ≤ gm_ml 77 by decide +kernel) (Nat.le_of_ble_eq_true rfl) (by omega) (Nat.zero_le _) (Nat.zero_le _) ?_
    refine tx_c77 ⟨by omega, by omega⟩ (fun j3 => ?_) (fun j3 => ?_)
    · show gm_Wp X LX d _ _ 76 117 _ [gm_vi 1] n K R _ Q
      have j3 : 97 ≤ M 2 p ∧ M 2 p ≤ 122 := j3
      refine fw_iffd (cc := .eq) (pc := 117) (off := 171) (by decide +kernel) (by decide) ⟨by decide, by decide⟩ (by decide) ?_
      refine gm_sz (gm_p_load (pc := 120) (i := .aload_n 0) (sr := 2) (j := 0) (by decide +kernel) rfl rfl rfl) ?_
      refine gm_sz (gm_p_dup (pc := 121) (by decide +kernel) fw_sr) ?_
      refine gm_sz (fw_gi (pc := 122) (ix := 15) (ci := 8) (j := 3) (x := p) (by decide +kernel) (vE214 hE) (by decide +kernel) (by decide +kernel) rfl) ?_
      refine gm_sz (gm_p_const (pc := 125) (i := .iconst 1) (v := gm_vi 1) (by decide +kernel) (by decide +kernel)) ?_
      refine gm_sz (gm_p_bin (pc := 126) (i := .iadd) (f := fun x y => x + y) (by decide +kernel) rfl) ?_
      refine gm_sz (fw_pi (pc := 127) (ix := 15) (ci := 8) (j := 3) (M' := vm M (p + 1) b w k v) (by decide +kernel) (vE214 hE) (by decide +kernel) (by decide +kernel) (by decide +kernel) vm_p) ?_
      refine gm_sz (gm_p_goto (pc := 130) (off := (-36)) (by decide +kernel) (by decide)) ?_
      rw [tx_rt (by omega) (decide_eq_true (by omega))] at kq
      exact ih (by omega) kq
    · show gm_Wp X LX d _ _ 76 117 _ [gm_vi 0] n K R _ Q
      have j3 : ¬ (97 ≤ M 2 p ∧ M 2 p ≤ 122) := j3
      refine fw_iftd (cc := .eq) (pc := 117) (off := 171) (by decide +kernel) (by decide) ⟨by decide, by decide⟩ (by decide) ?_
      rw [tx_rf (fun h h2 => by have := of_decide_eq_true h2; omega)] at kq
      exact kq

theorem vx_n2 (hd : 1 ≤ d) (hE : vE n K R M e) : ∀ p, 0 ≤ p → p ≤ e → ∀ (v : Int) (z : Option gm_V), b ≤ p → 0 ≤ b → (v = -1 ∨ (0 ≤ v ∧ v < tx_t (p - b))) → (∀ z, gm_Wp X LX d bc bs 76 288 [some (gm_vr 214), z] [] n K R (vm M (tx_r (tx_d (M 2)) e p) b w k (tx_u (M 2) e 4 b (e - p).toNat p v)) Q) → gm_Wp X LX d bc bs 76 160 [some (gm_vr 214), z] [] n K R (vm M p b w k v) Q := by
  obtain ⟨-, he0, he4⟩ := vEe hE
  refine fw_ind (fun p hp0 hpe ih v z hbp hb0 hv kq => ?_)
  have htb := tx_tb (k := p - b)
  refine gm_sz (gm_p_load (pc := 160) (i := .aload_n 0) (sr := 2) (j := 0) (by decide +kernel) rfl rfl rfl) ?_
  refine gm_sz (fw_gi (pc := 161) (ix := 15) (ci := 8) (j := 3) (x := p) (by decide +kernel) (vE214 hE) (by decide +kernel) (by decide +kernel) rfl) ?_
  refine gm_sz (gm_p_load (pc := 164) (i := .aload_n 0) (sr := 2) (j := 0) (by decide +kernel) rfl rfl rfl) ?_
  refine gm_sz (fw_gi (pc := 165) (ix := 9) (ci := 8) (j := 2) (x := e) (by decide +kernel) (vE214 hE) (by decide +kernel) (by decide +kernel) (vEe hE).1) ?_
  refine fw_ic (cc := .ge) (pc := 168) (off := 120) (by decide +kernel) (by decide) ⟨by omega, by omega⟩ ⟨by omega, by omega⟩ (fun j1 => ?_) (fun j1 => ?_)
  · have j1 : e ≤ p := j1
    have kq := kq z
    rw [tx_rf (fun h h2 => by have := of_decide_eq_true h2; omega), tx_uf (fun h h2 => by have := of_decide_eq_true h2; omega)] at kq
    exact kq
  · have j1 : ¬ e ≤ p := j1
    refine gm_sz (gm_p_load (pc := 171) (i := .aload_n 0) (sr := 2) (j := 0) (by decide +kernel) rfl rfl rfl) ?_
    refine gm_sz (fw_gr (pc := 172) (ix := 30) (ci := 8) (j := 0) (r := 2) (by decide +kernel) (vE214 hE) (by decide +kernel) (by decide +kernel) (show R 214 0 = 2 ∧ M 214 1 = 4 from hE.2.1).1) ?_
    refine gm_sz (gm_p_load (pc := 175) (i := .aload_n 0) (sr := 2) (j := 0) (by decide +kernel) rfl rfl rfl) ?_
    refine gm_sz (fw_gi (pc := 176) (ix := 15) (ci := 8) (j := 3) (x := p) (by decide +kernel) (vE214 hE) (by decide +kernel) (by decide +kernel) rfl) ?_
    refine gm_sz (fw_ba (pc := 179) (k := 2) (len := 400) (e0 := p) (x := M 2 p) (by decide +kernel) (vE2 hE).1 (vE2 hE).2 (by decide) ⟨by omega, by omega⟩ rfl) ?_
    have y2 := vEb hE (j := p) (by omega) (by omega)
    refine gm_c_stat (mj := 78) (ix := 50) (pc := 180) (as := [gm_vi (M 2 p)]) (st := []) (d' := d - 1) (bc' := 0) (bs' := 0) (by decide +kernel) (by decide +kernel) (by decide +kernel) (by decide +kernel) (show 1 = gm_na 78 by decide +kernel) (fw_c1 fw_si) (show 1 ≤ gm_ml 78 by decide +kernel) (Nat.le_of_ble_eq_true rfl) (by omega) (Nat.zero_le _) (Nat.zero_le _) ?_
    refine tx_c78 ⟨by omega, by omega⟩ (fun j3 => ?_) (fun j3 => ?_)
    · show gm_Wp X LX d _ _ 76 183 _ [gm_vi 1] n K R _ Q
      have j3 : 48 ≤ M 2 p ∧ M 2 p ≤ 57 := j3
      refine fw_iffd (cc := .eq) (pc := 183) (off := 105) (by decide +kernel) (by decide) ⟨by decide, by decide⟩ (by decide) ?_
      refine gm_sz (gm_p_load (pc := 186) (i := .aload_n 0) (sr := 2) (j := 0) (by decide +kernel) rfl rfl rfl) ?_
      refine gm_sz (fw_gi (pc := 187) (ix := 15) (ci := 8) (j := 3) (x := p) (by decide +kernel) (vE214 hE) (by decide +kernel) (by decide +kernel) rfl) ?_
      refine gm_sz (gm_p_load (pc := 190) (i := .aload_n 0) (sr := 2) (j := 0) (by decide +kernel) rfl rfl rfl) ?_
      refine gm_sz (fw_gi (pc := 191) (ix := 18) (ci := 8) (j := 4) (x := b) (by decide +kernel) (vE214 hE) (by decide +kernel) (by decide +kernel) rfl) ?_
      refine gm_sz (gm_p_bin (pc := 194) (i := .isub) (f := fun x y => x - y) (by decide +kernel) rfl) ?_
      refine gm_sz (gm_p_load (pc := 195) (i := .aload_n 0) (sr := 2) (j := 0) (by decide +kernel) rfl rfl rfl) ?_
      refine gm_sz (fw_gi (pc := 196) (ix := 34) (ci := 8) (j := 1) (x := 4) (by decide +kernel) (vE214 hE) (by decide +kernel) (by decide +kernel) (show R 214 0 = 2 ∧ M 214 1 = 4 from hE.2.1).2) ?_
      refine fw_ic (cc := .ge) (pc := 199) (off := 15) (by decide +kernel) (by decide) ⟨by omega, by omega⟩ ⟨by decide, by decide⟩ (fun j4 => ?_) (fun j4 => ?_)
      · have j4 : 4 ≤ (p - b) := j4
        refine gm_sz (gm_p_const (pc := 214) (i := .iconst 0) (v := gm_vi 0) (by decide +kernel) (by decide +kernel)) ?_
        refine gm_sz (gm_p_stor (pc := 215) (i := .istore_n 1) (sr := 0) (j := 1) (by decide +kernel) rfl (show 2 ≤ _ from Nat.le_of_ble_eq_true rfl) rfl) ?_
        refine gm_sz (gm_p_load (pc := 216) (i := .aload_n 0) (sr := 2) (j := 0) (by decide +kernel) rfl rfl rfl) ?_
        refine gm_sz (gm_p_load (pc := 217) (i := .iload_n 1) (sr := 0) (j := 1) (by decide +kernel) rfl rfl rfl) ?_
        refine fw_iftd (cc := .eq) (pc := 218) (off := 26) (by decide +kernel) (by decide) ⟨by decide, by decide⟩ (by decide) ?_
        refine gm_sz (gm_p_const (pc := 244) (i := .iconst (-1)) (v := gm_vi (-1)) (by decide +kernel) (by decide +kernel)) ?_
        refine gm_sz (fw_pi (pc := 245) (ix := 27) (ci := 8) (j := 7) (M' := vm M p b w k (-1)) (by decide +kernel) (vE214 hE) (by decide +kernel) (by decide +kernel) (by decide +kernel) vm_v) ?_
        refine gm_sz (gm_p_load (pc := 248) (i := .aload_n 0) (sr := 2) (j := 0) (by decide +kernel) rfl rfl rfl) ?_
        refine gm_sz (gm_p_dup (pc := 249) (by decide +kernel) fw_sr) ?_
        refine gm_sz (fw_gi (pc := 250) (ix := 15) (ci := 8) (j := 3) (x := p) (by decide +kernel) (vE214 hE) (by decide +kernel) (by decide +kernel) rfl) ?_
        refine gm_sz (gm_p_const (pc := 253) (i := .iconst 1) (v := gm_vi 1) (by decide +kernel) (by decide +kernel)) ?_
        refine gm_sz (gm_p_bin (pc := 254) (i := .iadd) (f := fun x y => x + y) (by decide +kernel) rfl) ?_
        refine gm_sz (fw_pi (pc := 255) (ix := 15) (ci := 8) (j := 3) (M' := vm M (p + 1) b w k (-1)) (by decide +kernel) (vE214 hE) (by decide +kernel) (by decide +kernel) (by decide +kernel) vm_p) ?_
        refine gm_sz (gm_p_goto (pc := 258) (off := (-98)) (by decide +kernel) (by decide)) ?_
        have hdg : tx_d (M 2) p = true := decide_eq_true (by omega)
        rw [tx_rt (by omega) hdg, tx_ut (by omega) hdg] at kq
        rw [if_neg (show ¬ (p - b < 4 ∧ ¬ v = -1) by omega)] at kq
        exact ih (by omega) _ _ (by omega) hb0 (Or.inl rfl) kq
      · have j4 : ¬ 4 ≤ (p - b) := j4
        refine gm_sz (gm_p_load (pc := 202) (i := .aload_n 0) (sr := 2) (j := 0) (by decide +kernel) rfl rfl rfl) ?_
        refine gm_sz (fw_gi (pc := 203) (ix := 27) (ci := 8) (j := 7) (x := v) (by decide +kernel) (vE214 hE) (by decide +kernel) (by decide +kernel) rfl) ?_
        refine gm_sz (gm_p_const (pc := 206) (i := .iconst (-1)) (v := gm_vi (-1)) (by decide +kernel) (by decide +kernel)) ?_
        refine fw_ic (cc := .eq) (pc := 207) (off := 7) (by decide +kernel) (by decide) ⟨by omega, by omega⟩ ⟨by decide, by decide⟩ (fun j5 => ?_) (fun j5 => ?_)
        · have j5 : v = (-1) := j5
          refine gm_sz (gm_p_const (pc := 214) (i := .iconst 0) (v := gm_vi 0) (by decide +kernel) (by decide +kernel)) ?_
          refine gm_sz (gm_p_stor (pc := 215) (i := .istore_n 1) (sr := 0) (j := 1) (by decide +kernel) rfl (show 2 ≤ _ from Nat.le_of_ble_eq_true rfl) rfl) ?_
          refine gm_sz (gm_p_load (pc := 216) (i := .aload_n 0) (sr := 2) (j := 0) (by decide +kernel) rfl rfl rfl) ?_
          refine gm_sz (gm_p_load (pc := 217) (i := .iload_n 1) (sr := 0) (j := 1) (by decide +kernel) rfl rfl rfl) ?_
          refine fw_iftd (cc := .eq) (pc := 218) (off := 26) (by decide +kernel) (by decide) ⟨by decide, by decide⟩ (by decide) ?_
          refine gm_sz (gm_p_const (pc := 244) (i := .iconst (-1)) (v := gm_vi (-1)) (by decide +kernel) (by decide +kernel)) ?_
          refine gm_sz (fw_pi (pc := 245) (ix := 27) (ci := 8) (j := 7) (M' := vm M p b w k (-1)) (by decide +kernel) (vE214 hE) (by decide +kernel) (by decide +kernel) (by decide +kernel) vm_v) ?_
          refine gm_sz (gm_p_load (pc := 248) (i := .aload_n 0) (sr := 2) (j := 0) (by decide +kernel) rfl rfl rfl) ?_
          refine gm_sz (gm_p_dup (pc := 249) (by decide +kernel) fw_sr) ?_
          refine gm_sz (fw_gi (pc := 250) (ix := 15) (ci := 8) (j := 3) (x := p) (by decide +kernel) (vE214 hE) (by decide +kernel) (by decide +kernel) rfl) ?_
          refine gm_sz (gm_p_const (pc := 253) (i := .iconst 1) (v := gm_vi 1) (by decide +kernel) (by decide +kernel)) ?_
          refine gm_sz (gm_p_bin (pc := 254) (i := .iadd) (f := fun x y => x + y) (by decide +kernel) rfl) ?_
          refine gm_sz (fw_pi (pc := 255) (ix := 15) (ci := 8) (j := 3) (M' := vm M (p + 1) b w k (-1)) (by decide +kernel) (vE214 hE) (by decide +kernel) (by decide +kernel) (by decide +kernel) vm_p) ?_
          refine gm_sz (gm_p_goto (pc := 258) (off := (-98)) (by decide +kernel) (by decide)) ?_
          have hdg : tx_d (M 2) p = true := decide_eq_true (by omega)
          rw [tx_rt (by omega) hdg, tx_ut (by omega) hdg] at kq
          rw [if_neg (show ¬ (p - b < 4 ∧ ¬ v = -1) by omega)] at kq
          exact ih (by omega) _ _ (by omega) hb0 (Or.inl rfl) kq
        · have j5 : ¬ v = (-1) := j5
          refine gm_sz (gm_p_const (pc := 210) (i := .iconst 1) (v := gm_vi 1) (by decide +kernel) (by decide +kernel)) ?_
          refine gm_sz (gm_p_goto (pc := 211) (off := 4) (by decide +kernel) (by decide)) ?_
          refine gm_sz (gm_p_stor (pc := 215) (i := .istore_n 1) (sr := 0) (j := 1) (by decide +kernel) rfl (show 2 ≤ _ from Nat.le_of_ble_eq_true rfl) rfl) ?_
          refine gm_sz (gm_p_load (pc := 216) (i := .aload_n 0) (sr := 2) (j := 0) (by decide +kernel) rfl rfl rfl) ?_
          refine gm_sz (gm_p_load (pc := 217) (i := .iload_n 1) (sr := 0) (j := 1) (by decide +kernel) rfl rfl rfl) ?_
          refine fw_iffd (cc := .eq) (pc := 218) (off := 26) (by decide +kernel) (by decide) ⟨by decide, by decide⟩ (by decide) ?_
          refine gm_sz (gm_p_load (pc := 221) (i := .aload_n 0) (sr := 2) (j := 0) (by decide +kernel) rfl rfl rfl) ?_
          refine gm_sz (fw_gi (pc := 222) (ix := 27) (ci := 8) (j := 7) (x := v) (by decide +kernel) (vE214 hE) (by decide +kernel) (by decide +kernel) rfl) ?_
          refine gm_sz (gm_p_const (pc := 225) (i := .bipush 10) (v := gm_vi 10) (by decide +kernel) (by decide +kernel)) ?_
          refine gm_sz (gm_p_bin (pc := 227) (i := .imul) (f := fun x y => x * y) (by decide +kernel) rfl) ?_
          refine gm_sz (gm_p_load (pc := 228) (i := .aload_n 0) (sr := 2) (j := 0) (by decide +kernel) rfl rfl rfl) ?_
          refine gm_sz (fw_gr (pc := 229) (ix := 30) (ci := 8) (j := 0) (r := 2) (by decide +kernel) (vE214 hE) (by decide +kernel) (by decide +kernel) (show R 214 0 = 2 ∧ M 214 1 = 4 from hE.2.1).1) ?_
          refine gm_sz (gm_p_load (pc := 232) (i := .aload_n 0) (sr := 2) (j := 0) (by decide +kernel) rfl rfl rfl) ?_
          refine gm_sz (fw_gi (pc := 233) (ix := 15) (ci := 8) (j := 3) (x := p) (by decide +kernel) (vE214 hE) (by decide +kernel) (by decide +kernel) rfl) ?_
          refine gm_sz (fw_ba (pc := 236) (k := 2) (len := 400) (e0 := p) (x := M 2 p) (by decide +kernel) (vE2 hE).1 (vE2 hE).2 (by decide) ⟨by omega, by omega⟩ rfl) ?_
          have y6 := vEb hE (j := p) (by omega) (by omega)
          refine gm_sz (gm_p_bin (pc := 237) (i := .iadd) (f := fun x y => x + y) (by decide +kernel) rfl) ?_
          refine gm_sz (gm_p_const (pc := 238) (i := .bipush 48) (v := gm_vi 48) (by decide +kernel) (by decide +kernel)) ?_
          refine gm_sz (gm_p_bin (pc := 240) (i := .isub) (f := fun x y => x - y) (by decide +kernel) rfl) ?_
          refine gm_sz (gm_p_goto (pc := 241) (off := 4) (by decide +kernel) (by decide)) ?_
          refine gm_sz (fw_pi (pc := 245) (ix := 27) (ci := 8) (j := 7) (M' := vm M p b w k (((v * 10) + (M 2 p)) - 48)) (by decide +kernel) (vE214 hE) (by decide +kernel) (by decide +kernel) (by decide +kernel) vm_v) ?_
          refine gm_sz (gm_p_load (pc := 248) (i := .aload_n 0) (sr := 2) (j := 0) (by decide +kernel) rfl rfl rfl) ?_
          refine gm_sz (gm_p_dup (pc := 249) (by decide +kernel) fw_sr) ?_
          refine gm_sz (fw_gi (pc := 250) (ix := 15) (ci := 8) (j := 3) (x := p) (by decide +kernel) (vE214 hE) (by decide +kernel) (by decide +kernel) rfl) ?_
          refine gm_sz (gm_p_const (pc := 253) (i := .iconst 1) (v := gm_vi 1) (by decide +kernel) (by decide +kernel)) ?_
          refine gm_sz (gm_p_bin (pc := 254) (i := .iadd) (f := fun x y => x + y) (by decide +kernel) rfl) ?_
          refine gm_sz (fw_pi (pc := 255) (ix := 15) (ci := 8) (j := 3) (M' := vm M (p + 1) b w k (((v * 10) + (M 2 p)) - 48)) (by decide +kernel) (vE214 hE) (by decide +kernel) (by decide +kernel) (by decide +kernel) vm_p) ?_
          refine gm_sz (gm_p_goto (pc := 258) (off := (-98)) (by decide +kernel) (by decide)) ?_
          have hdg : tx_d (M 2) p = true := decide_eq_true (by omega)
          rw [tx_rt (by omega) hdg, tx_ut (by omega) hdg] at kq
          rw [if_pos (show p - b < 4 ∧ ¬ v = -1 by omega)] at kq
          have t := tx_tv (v := v) (k := p - b) (c := M 2 p) (by omega) (by omega) (by omega)
          exact ih (by omega) _ _ (by omega) hb0 (Or.inr (by rw [show p + 1 - b = p - b + 1 by omega]; exact t)) kq
    · show gm_Wp X LX d _ _ 76 183 _ [gm_vi 0] n K R _ Q
      have j3 : ¬ (48 ≤ M 2 p ∧ M 2 p ≤ 57) := j3
      refine fw_iftd (cc := .eq) (pc := 183) (off := 105) (by decide +kernel) (by decide) ⟨by decide, by decide⟩ (by decide) ?_
      have kq := kq z
      rw [tx_rf (fun h h2 => by have := of_decide_eq_true h2; omega), tx_uf (fun h h2 => by have := of_decide_eq_true h2; omega)] at kq
      exact kq

theorem vx_nx (hd : 1 ≤ d) (hE : vE n K R M e) (hp : 0 ≤ p ∧ p ≤ e) (hq : Q (.inl none) n K R (vt M e (tx_g (M 2) e p) w)) : gm_Wp X LX d bc bs 76 0 (gm_ent 76 [gm_vr 214]) [] n K R (vm M p b w k v) Q := by
  obtain ⟨-, he0, he4⟩ := vEe hE
  refine vx_n0 hd hE p hp.1 hp.2 ?_
  obtain ⟨g1, g2, -⟩ := tx_gb (f := M 2) hp.2
  generalize tx_g (M 2) e p = q at *
  refine gm_sz (gm_p_load (pc := 38) (i := .aload_n 0) (sr := 2) (j := 0) (by decide +kernel) rfl rfl rfl) ?_
  refine gm_sz (gm_p_load (pc := 39) (i := .aload_n 0) (sr := 2) (j := 0) (by decide +kernel) rfl rfl rfl) ?_
  refine gm_sz (fw_gi (pc := 40) (ix := 15) (ci := 8) (j := 3) (x := q) (by decide +kernel) (vE214 hE) (by decide +kernel) (by decide +kernel) rfl) ?_
  refine gm_sz (fw_pi (pc := 43) (ix := 18) (ci := 8) (j := 4) (M' := vm M q q w k v) (by decide +kernel) (vE214 hE) (by decide +kernel) (by decide +kernel) (by decide +kernel) vm_b) ?_
  refine gm_sz (gm_p_load (pc := 46) (i := .aload_n 0) (sr := 2) (j := 0) (by decide +kernel) rfl rfl rfl) ?_
  refine gm_sz (gm_p_const (pc := 47) (i := .iconst (-1)) (v := gm_vi (-1)) (by decide +kernel) (by decide +kernel)) ?_
  refine gm_sz (fw_pi (pc := 48) (ix := 27) (ci := 8) (j := 7) (M' := vm M q q w k (-1)) (by decide +kernel) (vE214 hE) (by decide +kernel) (by decide +kernel) (by decide +kernel) vm_v) ?_
  refine gm_sz (gm_p_load (pc := 51) (i := .aload_n 0) (sr := 2) (j := 0) (by decide +kernel) rfl rfl rfl) ?_
  refine gm_sz (fw_gi (pc := 52) (ix := 15) (ci := 8) (j := 3) (x := q) (by decide +kernel) (vE214 hE) (by decide +kernel) (by decide +kernel) rfl) ?_
  refine gm_sz (gm_p_load (pc := 55) (i := .aload_n 0) (sr := 2) (j := 0) (by decide +kernel) rfl rfl rfl) ?_
  refine gm_sz (fw_gi (pc := 56) (ix := 9) (ci := 8) (j := 2) (x := e) (by decide +kernel) (vE214 hE) (by decide +kernel) (by decide +kernel) (vEe hE).1) ?_
  refine fw_ic (cc := .lt) (pc := 59) (off := 13) (by decide +kernel) (by decide) ⟨by omega, by omega⟩ ⟨by omega, by omega⟩ (fun j1 => ?_) (fun j1 => ?_)
  · have j1 : q < e := j1
    refine gm_sz (gm_p_load (pc := 72) (i := .aload_n 0) (sr := 2) (j := 0) (by decide +kernel) rfl rfl rfl) ?_
    refine gm_sz (fw_gr (pc := 73) (ix := 30) (ci := 8) (j := 0) (r := 2) (by decide +kernel) (vE214 hE) (by decide +kernel) (by decide +kernel) (show R 214 0 = 2 ∧ M 214 1 = 4 from hE.2.1).1) ?_
    refine gm_sz (gm_p_load (pc := 76) (i := .aload_n 0) (sr := 2) (j := 0) (by decide +kernel) rfl rfl rfl) ?_
    refine gm_sz (fw_gi (pc := 77) (ix := 15) (ci := 8) (j := 3) (x := q) (by decide +kernel) (vE214 hE) (by decide +kernel) (by decide +kernel) rfl) ?_
    refine gm_sz (fw_ba (pc := 80) (k := 2) (len := 400) (e0 := q) (x := M 2 q) (by decide +kernel) (vE2 hE).1 (vE2 hE).2 (by decide) ⟨by omega, by omega⟩ rfl) ?_
    have y2 := vEb hE (j := q) (by omega) (by omega)
    refine gm_c_stat (mj := 77) (ix := 46) (pc := 81) (as := [gm_vi (M 2 q)]) (st := []) (d' := d - 1) (bc' := 0) (bs' := 0) (by decide +kernel) (by decide +kernel) (by decide +kernel) (by decide +kernel) (show 1 = gm_na 77 by decide +kernel) (fw_c1 fw_si) (show 1 ≤ gm_ml 77 by decide +kernel) (Nat.le_of_ble_eq_true rfl) (by omega) (Nat.zero_le _) (Nat.zero_le _) ?_
    refine tx_c77 ⟨by omega, by omega⟩ (fun j3 => ?_) (fun j3 => ?_)
    · show gm_Wp X LX d _ _ 76 84 _ [gm_vi 1] n K R _ Q
      have j3 : 97 ≤ M 2 q ∧ M 2 q ≤ 122 := j3
      refine fw_iffd (cc := .eq) (pc := 84) (off := 49) (by decide +kernel) (by decide) ⟨by decide, by decide⟩ (by decide) ?_
      refine gm_sz (gm_p_load (pc := 87) (i := .aload_n 0) (sr := 2) (j := 0) (by decide +kernel) rfl rfl rfl) ?_
      refine gm_sz (gm_p_const (pc := 88) (i := .sipush 257) (v := gm_vi 257) (by decide +kernel) (by decide +kernel)) ?_
      refine gm_sz (fw_pi (pc := 91) (ix := 24) (ci := 8) (j := 6) (M' := vm M q q w 257 (-1)) (by decide +kernel) (vE214 hE) (by decide +kernel) (by decide +kernel) (by decide +kernel) vm_k) ?_
      refine vx_n1 hd hE q (by omega) (by omega) ?_
      obtain ⟨t1, t2, t3⟩ := tx_k1 (f := M 2) (e := e) (b := q) (m := 4) (by omega) (by omega)
      unfold vt at hq
      rw [t1, t2, t3] at hq
      exact gm_r_void (pc := 288) (by decide +kernel) (by decide +kernel) hq
    · show gm_Wp X LX d _ _ 76 84 _ [gm_vi 0] n K R _ Q
      have j3 : ¬ (97 ≤ M 2 q ∧ M 2 q ≤ 122) := j3
      refine fw_iftd (cc := .eq) (pc := 84) (off := 49) (by decide +kernel) (by decide) ⟨by decide, by decide⟩ (by decide) ?_
      refine gm_sz (gm_p_load (pc := 133) (i := .aload_n 0) (sr := 2) (j := 0) (by decide +kernel) rfl rfl rfl) ?_
      refine gm_sz (fw_gr (pc := 134) (ix := 30) (ci := 8) (j := 0) (r := 2) (by decide +kernel) (vE214 hE) (by decide +kernel) (by decide +kernel) (show R 214 0 = 2 ∧ M 214 1 = 4 from hE.2.1).1) ?_
      refine gm_sz (gm_p_load (pc := 137) (i := .aload_n 0) (sr := 2) (j := 0) (by decide +kernel) rfl rfl rfl) ?_
      refine gm_sz (fw_gi (pc := 138) (ix := 15) (ci := 8) (j := 3) (x := q) (by decide +kernel) (vE214 hE) (by decide +kernel) (by decide +kernel) rfl) ?_
      refine gm_sz (fw_ba (pc := 141) (k := 2) (len := 400) (e0 := q) (x := M 2 q) (by decide +kernel) (vE2 hE).1 (vE2 hE).2 (by decide) ⟨by omega, by omega⟩ rfl) ?_
      have y4 := vEb hE (j := q) (by omega) (by omega)
      refine gm_c_stat (mj := 78) (ix := 50) (pc := 142) (as := [gm_vi (M 2 q)]) (st := []) (d' := d - 1) (bc' := 0) (bs' := 0) (by decide +kernel) (by decide +kernel) (by decide +kernel) (by decide +kernel) (show 1 = gm_na 78 by decide +kernel) (fw_c1 fw_si) (show 1 ≤ gm_ml 78 by decide +kernel) (Nat.le_of_ble_eq_true rfl) (by omega) (Nat.zero_le _) (Nat.zero_le _) ?_
      refine tx_c78 ⟨by omega, by omega⟩ (fun j5 => ?_) (fun j5 => ?_)
      · show gm_Wp X LX d _ _ 76 145 _ [gm_vi 1] n K R _ Q
        have j5 : 48 ≤ M 2 q ∧ M 2 q ≤ 57 := j5
        refine fw_iffd (cc := .eq) (pc := 145) (off := 116) (by decide +kernel) (by decide) ⟨by decide, by decide⟩ (by decide) ?_
        refine gm_sz (gm_p_load (pc := 148) (i := .aload_n 0) (sr := 2) (j := 0) (by decide +kernel) rfl rfl rfl) ?_
        refine gm_sz (gm_p_const (pc := 149) (i := .sipush 258) (v := gm_vi 258) (by decide +kernel) (by decide +kernel)) ?_
        refine gm_sz (fw_pi (pc := 152) (ix := 24) (ci := 8) (j := 6) (M' := vm M q q w 258 (-1)) (by decide +kernel) (vE214 hE) (by decide +kernel) (by decide +kernel) (by decide +kernel) vm_k) ?_
        refine gm_sz (gm_p_load (pc := 155) (i := .aload_n 0) (sr := 2) (j := 0) (by decide +kernel) rfl rfl rfl) ?_
        refine gm_sz (gm_p_const (pc := 156) (i := .iconst 0) (v := gm_vi 0) (by decide +kernel) (by decide +kernel)) ?_
        refine gm_sz (fw_pi (pc := 157) (ix := 27) (ci := 8) (j := 7) (M' := vm M q q w 258 0) (by decide +kernel) (vE214 hE) (by decide +kernel) (by decide +kernel) (by decide +kernel) vm_v) ?_
        refine vx_n2 hd hE q (by omega) (by omega) 0 none (Int.le_refl _) (by omega) (Or.inr ⟨Int.le_refl _, by have := (tx_tb (k := q - q)).1; omega⟩) (fun z => ?_)
        obtain ⟨t1, t2, t3⟩ := tx_k2 (f := M 2) (e := e) (b := q) (m := 4) (by omega) (by omega)
        unfold vt at hq
        rw [t1, t2, t3] at hq
        exact gm_r_void (pc := 288) (by decide +kernel) (by decide +kernel) hq
      · show gm_Wp X LX d _ _ 76 145 _ [gm_vi 0] n K R _ Q
        have j5 : ¬ (48 ≤ M 2 q ∧ M 2 q ≤ 57) := j5
        refine fw_iftd (cc := .eq) (pc := 145) (off := 116) (by decide +kernel) (by decide) ⟨by decide, by decide⟩ (by decide) ?_
        refine gm_sz (gm_p_load (pc := 261) (i := .aload_n 0) (sr := 2) (j := 0) (by decide +kernel) rfl rfl rfl) ?_
        refine gm_sz (gm_p_load (pc := 262) (i := .aload_n 0) (sr := 2) (j := 0) (by decide +kernel) rfl rfl rfl) ?_
        refine gm_sz (fw_gr (pc := 263) (ix := 30) (ci := 8) (j := 0) (r := 2) (by decide +kernel) (vE214 hE) (by decide +kernel) (by decide +kernel) (show R 214 0 = 2 ∧ M 214 1 = 4 from hE.2.1).1) ?_
        refine gm_sz (gm_p_load (pc := 266) (i := .aload_n 0) (sr := 2) (j := 0) (by decide +kernel) rfl rfl rfl) ?_
        refine gm_sz (fw_gi (pc := 267) (ix := 15) (ci := 8) (j := 3) (x := q) (by decide +kernel) (vE214 hE) (by decide +kernel) (by decide +kernel) rfl) ?_
        refine gm_sz (fw_ba (pc := 270) (k := 2) (len := 400) (e0 := q) (x := M 2 q) (by decide +kernel) (vE2 hE).1 (vE2 hE).2 (by decide) ⟨by omega, by omega⟩ rfl) ?_
        have y6 := vEb hE (j := q) (by omega) (by omega)
        refine gm_sz (gm_p_const (pc := 271) (i := .sipush 255) (v := gm_vi 255) (by decide +kernel) (by decide +kernel)) ?_
        refine gm_sz (gm_p_bin (pc := 274) (i := .iand) (by decide +kernel) rfl) ?_
        rw [show (Int32.ofInt (M 2 q) &&& Int32.ofInt 255).toInt = (M 2 q) % 256 from tx_by ⟨by omega, by omega⟩]
        refine gm_sz (fw_pi (pc := 275) (ix := 24) (ci := 8) (j := 6) (M' := vm M q q w ((M 2 q) % 256) (-1)) (by decide +kernel) (vE214 hE) (by decide +kernel) (by decide +kernel) (by decide +kernel) vm_k) ?_
        refine gm_sz (gm_p_load (pc := 278) (i := .aload_n 0) (sr := 2) (j := 0) (by decide +kernel) rfl rfl rfl) ?_
        refine gm_sz (gm_p_dup (pc := 279) (by decide +kernel) fw_sr) ?_
        refine gm_sz (fw_gi (pc := 280) (ix := 15) (ci := 8) (j := 3) (x := q) (by decide +kernel) (vE214 hE) (by decide +kernel) (by decide +kernel) rfl) ?_
        refine gm_sz (gm_p_const (pc := 283) (i := .iconst 1) (v := gm_vi 1) (by decide +kernel) (by decide +kernel)) ?_
        refine gm_sz (gm_p_bin (pc := 284) (i := .iadd) (f := fun x y => x + y) (by decide +kernel) rfl) ?_
        refine gm_sz (fw_pi (pc := 285) (ix := 15) (ci := 8) (j := 3) (M' := vm M (q + 1) q w ((M 2 q) % 256) (-1)) (by decide +kernel) (vE214 hE) (by decide +kernel) (by decide +kernel) (by decide +kernel) vm_p) ?_
        obtain ⟨t1, t2, t3⟩ := tx_k3 (f := M 2) (e := e) (b := q) (m := 4) (by omega) (by omega) (by omega)
        unfold vt at hq
        rw [t1, t2, t3] at hq
        exact gm_r_void (pc := 288) (by decide +kernel) (by decide +kernel) hq
  · have j1 : ¬ q < e := j1
    refine gm_sz (gm_p_load (pc := 62) (i := .aload_n 0) (sr := 2) (j := 0) (by decide +kernel) rfl rfl rfl) ?_
    refine gm_sz (gm_p_const (pc := 63) (i := .sipush 256) (v := gm_vi 256) (by decide +kernel) (by decide +kernel)) ?_
    refine gm_sz (fw_pi (pc := 66) (ix := 24) (ci := 8) (j := 6) (M' := vm M q q w 256 (-1)) (by decide +kernel) (vE214 hE) (by decide +kernel) (by decide +kernel) (by decide +kernel) vm_k) ?_
    refine gm_sz (gm_p_goto (pc := 69) (off := 219) (by decide +kernel) (by decide)) ?_
    obtain ⟨t1, t2, t3⟩ := tx_k0 (f := M 2) (e := e) (b := q) (m := 4) (by omega)
    unfold vt at hq
    rw [t1, t2, t3] at hq
    exact gm_r_void (pc := 288) (by decide +kernel) (by decide +kernel) hq

theorem vx_c76 (hd : 1 ≤ d) (hE : vE n K R M e) (hb : 0 ≤ b ∧ b ≤ e) (hq : Q (.inl none) n K R (vt M e (tx_n (M 2) e b) w)) : gm_Wp X LX d bc bs 76 0 (gm_ent 76 [gm_vr 214]) [] n K R (vt M e b w) Q := by
  obtain ⟨h1, h2, -⟩ := tx_sb (f := M 2) hb.2
  exact vx_nx hd hE ⟨by omega, h2⟩ hq

theorem vx_c93 (hE : vE n K R M e) (hb : 0 ≤ b ∧ b ≤ e) (hq : Q (.inl (some (gm_vi 0))) n K R (vt M e b b)) : gm_Wp X LX d bc bs 93 0 (gm_ent 93 [gm_vr 214]) [] n K R (vt M e b (-1)) Q := by
  refine gm_sz (gm_p_load (pc := 0) (i := .aload_n 0) (sr := 2) (j := 0) (by decide +kernel) rfl rfl rfl) ?_
  refine gm_sz (fw_gi (pc := 1) (ix := 21) (ci := 8) (j := 5) (x := (-1)) (by decide +kernel) (vE214 hE) (by decide +kernel) (by decide +kernel) rfl) ?_
  refine gm_sz (gm_p_const (pc := 4) (i := .iconst (-1)) (v := gm_vi (-1)) (by decide +kernel) (by decide +kernel)) ?_
  refine fw_icfd (cc := .ne) (pc := 5) (off := 11) (by decide +kernel) (by decide) ⟨by decide, by decide⟩ ⟨by decide, by decide⟩ (by decide) ?_
  refine gm_sz (gm_p_load (pc := 8) (i := .aload_n 0) (sr := 2) (j := 0) (by decide +kernel) rfl rfl rfl) ?_
  refine gm_sz (gm_p_load (pc := 9) (i := .aload_n 0) (sr := 2) (j := 0) (by decide +kernel) rfl rfl rfl) ?_
  refine gm_sz (fw_gi (pc := 10) (ix := 18) (ci := 8) (j := 4) (x := b) (by decide +kernel) (vE214 hE) (by decide +kernel) (by decide +kernel) rfl) ?_
  refine gm_sz (fw_pi (pc := 13) (ix := 21) (ci := 8) (j := 5) (M' := vt M e b b) (by decide +kernel) (vE214 hE) (by decide +kernel) (by decide +kernel) (by decide +kernel) vt_w) ?_
  refine gm_sz (gm_p_const (pc := 16) (i := .iconst 0) (v := gm_vi 0) (by decide +kernel) (by decide +kernel)) ?_
  exact gm_r_int (pc := 17) (by decide +kernel) (Or.inr ⟨(by decide +kernel), Or.inl rfl⟩) hq

theorem vx_c121 (hE : vE n K R M e) (hq : Q (.inl (some (gm_vi w))) n K R (vt M e b w)) : gm_Wp X LX d bc bs 121 0 (gm_ent 121 [gm_vr 214]) [] n K R (vt M e b w) Q := by
  refine gm_sz (gm_p_load (pc := 0) (i := .aload_n 0) (sr := 2) (j := 0) (by decide +kernel) rfl rfl rfl) ?_
  refine gm_sz (fw_gi (pc := 1) (ix := 21) (ci := 8) (j := 5) (x := w) (by decide +kernel) (vE214 hE) (by decide +kernel) (by decide +kernel) rfl) ?_
  exact gm_r_int (pc := 4) (by decide +kernel) (Or.inl (by decide +kernel)) hq
variable {c : Nat} {l : List Int}

variable {c : Nat} {l : List Int}
theorem vx_w8 (hd : 5 ≤ d) (hE : vE n K R M e) (hc : c < 75) (hl : tx_o c = l) (hb : 0 ≤ b ∧ b ≤ e) (hk : tx_k (M 2) e b = 257) (hs : tx_s (M 2) e b - b = (l.length : Int)) (h1 : tx_is (M 2) e b l → Q (.inl (some (gm_vi 1))) n K R (vt M e b w)) (h0 : ¬ tx_is (M 2) e b l → Q (.inl (some (gm_vi 0))) n K R (vt M e b w)) : ∀ i, 0 ≤ i → i ≤ (l.length : Int) → (∀ j : Nat, (j : Int) < i → M 2 (b + j) = l.getD j 0) → gm_Wp X LX d bc bs 81 30 [some (gm_vr 214), some (gm_vo c), some (gm_vi i)] [] n K R (vt M e b w) Q := by
  obtain ⟨-, he0, he4⟩ := vEe hE
  obtain ⟨s1, s2, -⟩ := tx_sb (f := M 2) hb.2
  have hsl := (tx_ol hl).1
  have hid : c < gm_sl.length := by rw [gm_sl75]; exact hc
  have hs9 := (gm_chk_s hid).1.2
  have hkb := tx_kc (f := M 2) (e := e) (b := b) (fun h => vEb hE hb.1 (by omega))
  refine fw_ind (fun i hi0 hil ih hall => ?_)
  refine gm_sz (gm_p_load (pc := 30) (i := .iload_n 2) (sr := 0) (j := 2) (by decide +kernel) rfl rfl rfl) ?_
  refine gm_sz (gm_p_load (pc := 31) (i := .aload_n 1) (sr := 2) (j := 1) (by decide +kernel) rfl rfl rfl) ?_
  refine gm_c_vstr (id := c) (mj := 82) (ix := 53) (pc := 32) (as := []) (st := [gm_vi i]) (d' := d - 1) (bc' := 0) (bs' := 0) (by decide +kernel) (by decide +kernel) (by decide +kernel) (by decide +kernel) hid (by decide +kernel) (show 0 = gm_na 82 by decide +kernel) fw_c0 (show 1 ≤ gm_ml 82 by decide +kernel) (Nat.le_of_ble_eq_true rfl) (by omega) (Nat.zero_le _) (Nat.zero_le _) ?_
  refine gm_w82 (by omega) hid ?_
  show gm_Wp X LX d _ _ 81 35 _ [gm_vi (gm_slen c : Int), gm_vi i] n K R _ Q
  refine fw_ic (cc := .ge) (pc := 35) (off := 44) (by decide +kernel) (by decide) ⟨by omega, by omega⟩ ⟨by omega, by omega⟩ (fun j1 => ?_) (fun j1 => ?_)
  · have j1 : (gm_slen c : Int) ≤ i := j1
    refine gm_sz (gm_p_const (pc := 79) (i := .iconst 1) (v := gm_vi 1) (by decide +kernel) (by decide +kernel)) ?_
    exact gm_r_int (pc := 80) (by decide +kernel) (Or.inr ⟨(by decide +kernel), Or.inr rfl⟩) (h1 ⟨hk, hs, fun j hj => hall j (by omega)⟩)
  · have j1 : ¬ (gm_slen c : Int) ≤ i := j1
    refine gm_sz (gm_p_load (pc := 38) (i := .aload_n 0) (sr := 2) (j := 0) (by decide +kernel) rfl rfl rfl) ?_
    refine gm_sz (fw_gi (pc := 39) (ix := 18) (ci := 8) (j := 4) (x := b) (by decide +kernel) (vE214 hE) (by decide +kernel) (by decide +kernel) rfl) ?_
    refine gm_sz (gm_p_load (pc := 42) (i := .iload_n 2) (sr := 0) (j := 2) (by decide +kernel) rfl rfl rfl) ?_
    refine gm_sz (gm_p_bin (pc := 43) (i := .iadd) (f := fun x y => x + y) (by decide +kernel) rfl) ?_
    refine gm_sz (gm_p_load (pc := 44) (i := .aload_n 0) (sr := 2) (j := 0) (by decide +kernel) rfl rfl rfl) ?_
    refine gm_sz (fw_gr (pc := 45) (ix := 30) (ci := 8) (j := 0) (r := 2) (by decide +kernel) (vE214 hE) (by decide +kernel) (by decide +kernel) (show R 214 0 = 2 ∧ M 214 1 = 4 from hE.2.1).1) ?_
    refine gm_sz (fw_al (pc := 48) (k := 2) (len := 400) (by decide +kernel) (vE2 hE).1 (vE2 hE).2 (by decide)) ?_
    refine fw_icf (cc := .ge) (pc := 49) (off := 30) (by decide +kernel) (by decide) ⟨by omega, by omega⟩ ⟨by decide, by decide⟩ (show ¬ 400 ≤ (b + i) by omega) ?_
    refine gm_sz (gm_p_load (pc := 52) (i := .aload_n 0) (sr := 2) (j := 0) (by decide +kernel) rfl rfl rfl) ?_
    refine gm_sz (fw_gr (pc := 53) (ix := 30) (ci := 8) (j := 0) (r := 2) (by decide +kernel) (vE214 hE) (by decide +kernel) (by decide +kernel) (show R 214 0 = 2 ∧ M 214 1 = 4 from hE.2.1).1) ?_
    refine gm_sz (gm_p_load (pc := 56) (i := .aload_n 0) (sr := 2) (j := 0) (by decide +kernel) rfl rfl rfl) ?_
    refine gm_sz (fw_gi (pc := 57) (ix := 18) (ci := 8) (j := 4) (x := b) (by decide +kernel) (vE214 hE) (by decide +kernel) (by decide +kernel) rfl) ?_
    refine gm_sz (gm_p_load (pc := 60) (i := .iload_n 2) (sr := 0) (j := 2) (by decide +kernel) rfl rfl rfl) ?_
    refine gm_sz (gm_p_bin (pc := 61) (i := .iadd) (f := fun x y => x + y) (by decide +kernel) rfl) ?_
    refine gm_sz (fw_ba (pc := 62) (k := 2) (len := 400) (e0 := b + i) (x := M 2 (b + i)) (by decide +kernel) (vE2 hE).1 (vE2 hE).2 (by decide) ⟨by omega, by omega⟩ rfl) ?_
    have y2 := vEb hE (j := b + i) (by omega) (by omega)
    refine gm_sz (gm_p_load (pc := 63) (i := .aload_n 1) (sr := 2) (j := 1) (by decide +kernel) rfl rfl rfl) ?_
    refine gm_sz (gm_p_load (pc := 64) (i := .iload_n 2) (sr := 0) (j := 2) (by decide +kernel) rfl rfl rfl) ?_
    refine gm_c_vstr (id := c) (mj := 84) (ix := 58) (pc := 65) (as := [gm_vi i]) (st := [gm_vi (M 2 (b + i))]) (d' := d - 1) (bc' := 0) (bs' := 0) (by decide +kernel) (by decide +kernel) (by decide +kernel) (by decide +kernel) hid (by decide +kernel) (show 1 = gm_na 84 by decide +kernel) (fw_c1 fw_si) (show 2 ≤ gm_ml 84 by decide +kernel) (Nat.le_of_ble_eq_true rfl) (by omega) (Nat.zero_le _) (Nat.zero_le _) ?_
    refine gm_w84 (by omega) hid ⟨by omega, by omega⟩ ?_
    show gm_Wp X LX d _ _ 81 68 _ [gm_vi (gm_chv c i.toNat), gm_vi (M 2 (b + i))] n K R _ Q
    have z3 := ((gm_chk_s hid).2 i.toNat (by omega)).2
    refine fw_ic (cc := .eq) (pc := 68) (off := 5) (by decide +kernel) (by decide) ⟨by omega, by omega⟩ ⟨by omega, by omega⟩ (fun j4 => ?_) (fun j4 => ?_)
    · have j4 : (M 2 (b + i)) = (gm_chv c i.toNat) := j4
      refine gm_sz (gm_p_iinc (pc := 73) (j := 2) (z := 1) (by decide +kernel) rfl) ?_
      refine gm_sz (gm_p_goto (pc := 76) (off := (-46)) (by decide +kernel) (by decide)) ?_
      refine ih (by omega) (fun j hj => ?_)
      by_cases hji : (j : Int) = i
      · rw [hji, j4, (tx_ol hl).2 i.toNat (by omega), show i.toNat = j by omega]
      · exact hall j (by omega)
    · have j4 : ¬ (M 2 (b + i)) = (gm_chv c i.toNat) := j4
      refine gm_sz (gm_p_const (pc := 71) (i := .iconst 0) (v := gm_vi 0) (by decide +kernel) (by decide +kernel)) ?_
      refine gm_r_int (pc := 72) (by decide +kernel) (Or.inr ⟨(by decide +kernel), Or.inl rfl⟩) (h0 fun hh => ?_)
      have e1 := hh.2.2 i.toNat (by omega)
      rw [show ((i.toNat : Nat) : Int) = i by omega, ← (tx_ol hl).2 i.toNat (by omega)] at e1
      exact j4 e1

theorem vx_c81 (hd : 5 ≤ d) (hE : vE n K R M e) (hc : c < 75) (hl : tx_o c = l) (hb : 0 ≤ b ∧ b ≤ e) (h1 : tx_is (M 2) e b l → Q (.inl (some (gm_vi 1))) n K R (vt M e b w)) (h0 : ¬ tx_is (M 2) e b l → Q (.inl (some (gm_vi 0))) n K R (vt M e b w)) : gm_Wp X LX d bc bs 81 0 (gm_ent 81 [gm_vr 214, gm_vo c]) [] n K R (vt M e b w) Q := by
  obtain ⟨-, he0, he4⟩ := vEe hE
  obtain ⟨s1, s2, -⟩ := tx_sb (f := M 2) hb.2
  have hsl := (tx_ol hl).1
  have hid : c < gm_sl.length := by rw [gm_sl75]; exact hc
  have hs9 := (gm_chk_s hid).1.2
  have hkb := tx_kc (f := M 2) (e := e) (b := b) (fun h => vEb hE hb.1 (by omega))
  refine gm_sz (gm_p_load (pc := 0) (i := .aload_n 0) (sr := 2) (j := 0) (by decide +kernel) rfl rfl rfl) ?_
  refine gm_sz (fw_gi (pc := 1) (ix := 24) (ci := 8) (j := 6) (x := tx_k (M 2) e b) (by decide +kernel) (vE214 hE) (by decide +kernel) (by decide +kernel) rfl) ?_
  refine gm_sz (gm_p_const (pc := 4) (i := .sipush 257) (v := gm_vi 257) (by decide +kernel) (by decide +kernel)) ?_
  refine fw_ic (cc := .ne) (pc := 7) (off := 19) (by decide +kernel) (by decide) ⟨by omega, by omega⟩ ⟨by decide, by decide⟩ (fun j1 => ?_) (fun j1 => ?_)
  · have j1 : ¬ (tx_k (M 2) e b) = 257 := j1
    refine gm_sz (gm_p_const (pc := 26) (i := .iconst 0) (v := gm_vi 0) (by decide +kernel) (by decide +kernel)) ?_
    exact gm_r_int (pc := 27) (by decide +kernel) (Or.inr ⟨(by decide +kernel), Or.inl rfl⟩) (h0 fun hh => by have t1 := hh.1; have t2 := hh.2.1; omega)
  · have j1 : (tx_k (M 2) e b) = 257 := Classical.not_not.mp j1
    refine gm_sz (gm_p_load (pc := 10) (i := .aload_n 0) (sr := 2) (j := 0) (by decide +kernel) rfl rfl rfl) ?_
    refine gm_sz (fw_gi (pc := 11) (ix := 15) (ci := 8) (j := 3) (x := tx_s (M 2) e b) (by decide +kernel) (vE214 hE) (by decide +kernel) (by decide +kernel) rfl) ?_
    refine gm_sz (gm_p_load (pc := 14) (i := .aload_n 0) (sr := 2) (j := 0) (by decide +kernel) rfl rfl rfl) ?_
    refine gm_sz (fw_gi (pc := 15) (ix := 18) (ci := 8) (j := 4) (x := b) (by decide +kernel) (vE214 hE) (by decide +kernel) (by decide +kernel) rfl) ?_
    refine gm_sz (gm_p_bin (pc := 18) (i := .isub) (f := fun x y => x - y) (by decide +kernel) rfl) ?_
    refine gm_sz (gm_p_load (pc := 19) (i := .aload_n 1) (sr := 2) (j := 1) (by decide +kernel) rfl rfl rfl) ?_
    refine gm_c_vstr (id := c) (mj := 82) (ix := 53) (pc := 20) (as := []) (st := [gm_vi ((tx_s (M 2) e b) - b)]) (d' := d - 1) (bc' := 0) (bs' := 0) (by decide +kernel) (by decide +kernel) (by decide +kernel) (by decide +kernel) hid (by decide +kernel) (show 0 = gm_na 82 by decide +kernel) fw_c0 (show 1 ≤ gm_ml 82 by decide +kernel) (Nat.le_of_ble_eq_true rfl) (by omega) (Nat.zero_le _) (Nat.zero_le _) ?_
    refine gm_w82 (by omega) hid ?_
    show gm_Wp X LX d _ _ 81 23 _ [gm_vi (gm_slen c : Int), gm_vi ((tx_s (M 2) e b) - b)] n K R _ Q
    refine fw_ic (cc := .eq) (pc := 23) (off := 5) (by decide +kernel) (by decide) ⟨by omega, by omega⟩ ⟨by omega, by omega⟩ (fun j2 => ?_) (fun j2 => ?_)
    · have j2 : ((tx_s (M 2) e b) - b) = (gm_slen c : Int) := j2
      refine gm_sz (gm_p_const (pc := 28) (i := .iconst 0) (v := gm_vi 0) (by decide +kernel) (by decide +kernel)) ?_
      refine gm_sz (gm_p_stor (pc := 29) (i := .istore_n 2) (sr := 0) (j := 2) (by decide +kernel) rfl (show 3 ≤ _ from Nat.le_of_ble_eq_true rfl) rfl) ?_
      exact vx_w8 hd hE hc hl hb (by omega) (by omega) h1 h0 0 (Int.le_refl _) (by omega) (fun j hj => absurd hj (by omega))
    · have j2 : ¬ ((tx_s (M 2) e b) - b) = (gm_slen c : Int) := j2
      refine gm_sz (gm_p_const (pc := 26) (i := .iconst 0) (v := gm_vi 0) (by decide +kernel) (by decide +kernel)) ?_
      exact gm_r_int (pc := 27) (by decide +kernel) (Or.inr ⟨(by decide +kernel), Or.inl rfl⟩) (h0 fun hh => by have t1 := hh.1; have t2 := hh.2.1; omega)

theorem vx_c95 (hd : 6 ≤ d) (hE : vE n K R M e) (hc : c < 75) (hl : tx_o c = l) (hb : 0 ≤ b ∧ b ≤ e) (h1 : tx_is (M 2) e b l → Q (.inl (some (gm_vi 1))) n K R (vt M e (tx_n (M 2) e b) w)) (h0 : ¬ tx_is (M 2) e b l → Q (.inl (some (gm_vi 0))) n K R (vt M e b w)) : gm_Wp X LX d bc bs 95 0 (gm_ent 95 [gm_vr 214, gm_vo c]) [] n K R (vt M e b w) Q := by
  obtain ⟨-, he0, he4⟩ := vEe hE
  refine gm_sz (gm_p_load (pc := 0) (i := .aload_n 0) (sr := 2) (j := 0) (by decide +kernel) rfl rfl rfl) ?_
  refine gm_sz (gm_p_load (pc := 1) (i := .aload_n 1) (sr := 2) (j := 1) (by decide +kernel) rfl rfl rfl) ?_
  refine gm_c_virt (k := 214) (ci := 8) (mj := 81) (ix := 62) (pc := 2) (as := [gm_vo c]) (st := []) (d' := d - 1) (bc' := 0) (bs' := 0) (by decide +kernel) (by decide +kernel) (by decide +kernel) (by decide +kernel) (vE214 hE).1 (vE214 hE).2 (by decide) (by decide +kernel) (show 1 = gm_na 81 by decide +kernel) (fw_c1 fw_so) (show 2 ≤ gm_ml 81 by decide +kernel) (Nat.le_of_ble_eq_true rfl) (by omega) (Nat.zero_le _) (Nat.zero_le _) ?_
  refine vx_c81 (by omega) hE hc hl hb (fun j1 => ?_) (fun j1 => ?_)
  · show gm_Wp X LX d _ _ 95 5 _ [gm_vi 1] n K R _ Q
    have j1 : tx_is (M 2) e b l := j1
    refine gm_sz (gm_p_stor (pc := 5) (i := .istore_n 2) (sr := 0) (j := 2) (by decide +kernel) rfl (show 3 ≤ _ from Nat.le_of_ble_eq_true rfl) rfl) ?_
    refine gm_sz (gm_p_load (pc := 6) (i := .iload_n 2) (sr := 0) (j := 2) (by decide +kernel) rfl rfl rfl) ?_
    refine fw_iffd (cc := .eq) (pc := 7) (off := 7) (by decide +kernel) (by decide) ⟨by decide, by decide⟩ (by decide) ?_
    refine gm_sz (gm_p_load (pc := 10) (i := .aload_n 0) (sr := 2) (j := 0) (by decide +kernel) rfl rfl rfl) ?_
    refine gm_c_virt (k := 214) (ci := 8) (mj := 76) (ix := 43) (pc := 11) (as := []) (st := []) (d' := d - 1) (bc' := 0) (bs' := 0) (by decide +kernel) (by decide +kernel) (by decide +kernel) (by decide +kernel) (vE214 hE).1 (vE214 hE).2 (by decide) (by decide +kernel) (show 0 = gm_na 76 by decide +kernel) fw_c0 (show 1 ≤ gm_ml 76 by decide +kernel) (Nat.le_of_ble_eq_true rfl) (by omega) (Nat.zero_le _) (Nat.zero_le _) ?_
    refine vx_c76 (by omega) hE hb ?_
    show gm_Wp X LX d _ _ 95 14 _ [] n K R _ Q
    have g2 : 0 ≤ tx_n (M 2) e b ∧ tx_n (M 2) e b ≤ e := by have := tx_nb (f := M 2) (b := b) hb.2; omega
    refine gm_sz (gm_p_load (pc := 14) (i := .iload_n 2) (sr := 0) (j := 2) (by decide +kernel) rfl rfl rfl) ?_
    exact gm_r_int (pc := 15) (by decide +kernel) (Or.inr ⟨(by decide +kernel), Or.inr rfl⟩) (h1 j1)
  · show gm_Wp X LX d _ _ 95 5 _ [gm_vi 0] n K R _ Q
    have j1 : ¬ tx_is (M 2) e b l := j1
    refine gm_sz (gm_p_stor (pc := 5) (i := .istore_n 2) (sr := 0) (j := 2) (by decide +kernel) rfl (show 3 ≤ _ from Nat.le_of_ble_eq_true rfl) rfl) ?_
    refine gm_sz (gm_p_load (pc := 6) (i := .iload_n 2) (sr := 0) (j := 2) (by decide +kernel) rfl rfl rfl) ?_
    refine fw_iftd (cc := .eq) (pc := 7) (off := 7) (by decide +kernel) (by decide) ⟨by decide, by decide⟩ (by decide) ?_
    refine gm_sz (gm_p_load (pc := 14) (i := .iload_n 2) (sr := 0) (j := 2) (by decide +kernel) rfl rfl rfl) ?_
    exact gm_r_int (pc := 15) (by decide +kernel) (Or.inr ⟨(by decide +kernel), Or.inl rfl⟩) (h0 j1)

theorem vx_c98 (hd : 2 ≤ d) (hE : vE n K R M e) (hx : gm_ir x) (hb : 0 ≤ b ∧ b ≤ e) (h1 : tx_k (M 2) e b = x → Q (.inl (some (gm_vi 1))) n K R (vt M e (tx_n (M 2) e b) (-1))) (h0 : ¬ tx_k (M 2) e b = x → Q (.inl (some (gm_vi 0))) n K R (vt M e b b)) : gm_Wp X LX d bc bs 98 0 (gm_ent 98 [gm_vr 214, gm_vi x]) [] n K R (vt M e b (-1)) Q := by
  obtain ⟨-, he0, he4⟩ := vEe hE
  obtain ⟨hx1, hx2⟩ := hx
  have hkb := tx_kc (f := M 2) (e := e) (b := b) (fun h => vEb hE hb.1 (by omega))
  have hvb := tx_vb (f := M 2) (e := e) (m := 4) (b := b) (by decide)
  refine gm_sz (gm_p_load (pc := 0) (i := .aload_n 0) (sr := 2) (j := 0) (by decide +kernel) rfl rfl rfl) ?_
  refine gm_sz (fw_gi (pc := 1) (ix := 24) (ci := 8) (j := 6) (x := tx_k (M 2) e b) (by decide +kernel) (vE214 hE) (by decide +kernel) (by decide +kernel) rfl) ?_
  refine gm_sz (gm_p_load (pc := 4) (i := .iload_n 1) (sr := 0) (j := 1) (by decide +kernel) rfl rfl rfl) ?_
  refine fw_ic (cc := .eq) (pc := 5) (off := 8) (by decide +kernel) (by decide) ⟨by omega, by omega⟩ ⟨by omega, by omega⟩ (fun j1 => ?_) (fun j1 => ?_)
  · have j1 : (tx_k (M 2) e b) = x := j1
    refine gm_sz (gm_p_load (pc := 13) (i := .aload_n 0) (sr := 2) (j := 0) (by decide +kernel) rfl rfl rfl) ?_
    refine gm_c_virt (k := 214) (ci := 8) (mj := 76) (ix := 43) (pc := 14) (as := []) (st := []) (d' := d - 1) (bc' := 0) (bs' := 0) (by decide +kernel) (by decide +kernel) (by decide +kernel) (by decide +kernel) (vE214 hE).1 (vE214 hE).2 (by decide) (by decide +kernel) (show 0 = gm_na 76 by decide +kernel) fw_c0 (show 1 ≤ gm_ml 76 by decide +kernel) (Nat.le_of_ble_eq_true rfl) (by omega) (Nat.zero_le _) (Nat.zero_le _) ?_
    refine vx_c76 (by omega) hE hb ?_
    show gm_Wp X LX d _ _ 98 17 _ [] n K R _ Q
    have g2 : 0 ≤ tx_n (M 2) e b ∧ tx_n (M 2) e b ≤ e := by have := tx_nb (f := M 2) (b := b) hb.2; omega
    refine gm_sz (gm_p_const (pc := 17) (i := .iconst 1) (v := gm_vi 1) (by decide +kernel) (by decide +kernel)) ?_
    exact gm_r_int (pc := 18) (by decide +kernel) (Or.inr ⟨(by decide +kernel), Or.inr rfl⟩) (h1 j1)
  · have j1 : ¬ (tx_k (M 2) e b) = x := j1
    refine gm_sz (gm_p_load (pc := 8) (i := .aload_n 0) (sr := 2) (j := 0) (by decide +kernel) rfl rfl rfl) ?_
    refine gm_c_virt (k := 214) (ci := 8) (mj := 93) (ix := 69) (pc := 9) (as := []) (st := []) (d' := d - 1) (bc' := 0) (bs' := 0) (by decide +kernel) (by decide +kernel) (by decide +kernel) (by decide +kernel) (vE214 hE).1 (vE214 hE).2 (by decide) (by decide +kernel) (show 0 = gm_na 93 by decide +kernel) fw_c0 (show 1 ≤ gm_ml 93 by decide +kernel) (Nat.le_of_ble_eq_true rfl) (by omega) (Nat.zero_le _) (Nat.zero_le _) ?_
    refine vx_c93 hE hb ?_
    show gm_Wp X LX d _ _ 98 12 _ [gm_vi 0] n K R _ Q
    exact gm_r_int (pc := 12) (by decide +kernel) (Or.inr ⟨(by decide +kernel), Or.inl rfl⟩) (h0 j1)

theorem vx_c94 {lo hi : Int} (hd : 2 ≤ d) (hE : vE n K R M e) (hlo : gm_ir lo) (hhi : gm_ir hi) (hb : 0 ≤ b ∧ b ≤ e) (h1 : tx_k (M 2) e b = 258 → lo ≤ tx_v (M 2) e 4 b → tx_v (M 2) e 4 b ≤ hi → Q (.inl (some (gm_vi (tx_v (M 2) e 4 b)))) n K R (vt M e (tx_n (M 2) e b) (-1))) (h0 : ¬ (tx_k (M 2) e b = 258 ∧ lo ≤ tx_v (M 2) e 4 b ∧ tx_v (M 2) e 4 b ≤ hi) → Q (.inl (some (gm_vi (-1)))) n K R (vt M e b b)) : gm_Wp X LX d bc bs 94 0 (gm_ent 94 [gm_vr 214, gm_vi lo, gm_vi hi]) [] n K R (vt M e b (-1)) Q := by
  obtain ⟨-, he0, he4⟩ := vEe hE
  obtain ⟨hlo1, hlo2⟩ := hlo
  obtain ⟨hhi1, hhi2⟩ := hhi
  have hkb := tx_kc (f := M 2) (e := e) (b := b) (fun h => vEb hE hb.1 (by omega))
  have hvb := tx_vb (f := M 2) (e := e) (m := 4) (b := b) (by decide)
  refine gm_sz (gm_p_load (pc := 0) (i := .aload_n 0) (sr := 2) (j := 0) (by decide +kernel) rfl rfl rfl) ?_
  refine gm_sz (fw_gi (pc := 1) (ix := 27) (ci := 8) (j := 7) (x := tx_v (M 2) e 4 b) (by decide +kernel) (vE214 hE) (by decide +kernel) (by decide +kernel) rfl) ?_
  refine gm_sz (gm_p_stor (pc := 4) (i := .istore_n 3) (sr := 0) (j := 3) (by decide +kernel) rfl (show 4 ≤ _ from Nat.le_of_ble_eq_true rfl) rfl) ?_
  refine gm_sz (gm_p_load (pc := 5) (i := .aload_n 0) (sr := 2) (j := 0) (by decide +kernel) rfl rfl rfl) ?_
  refine gm_sz (fw_gi (pc := 6) (ix := 24) (ci := 8) (j := 6) (x := tx_k (M 2) e b) (by decide +kernel) (vE214 hE) (by decide +kernel) (by decide +kernel) rfl) ?_
  refine gm_sz (gm_p_const (pc := 9) (i := .sipush 258) (v := gm_vi 258) (by decide +kernel) (by decide +kernel)) ?_
  refine fw_ic (cc := .ne) (pc := 12) (off := 13) (by decide +kernel) (by decide) ⟨by omega, by omega⟩ ⟨by decide, by decide⟩ (fun j1 => ?_) (fun j1 => ?_)
  · have j1 : ¬ (tx_k (M 2) e b) = 258 := j1
    refine gm_sz (gm_p_load (pc := 25) (i := .aload_n 0) (sr := 2) (j := 0) (by decide +kernel) rfl rfl rfl) ?_
    refine gm_c_virt (k := 214) (ci := 8) (mj := 93) (ix := 69) (pc := 26) (as := []) (st := []) (d' := d - 1) (bc' := 0) (bs' := 0) (by decide +kernel) (by decide +kernel) (by decide +kernel) (by decide +kernel) (vE214 hE).1 (vE214 hE).2 (by decide) (by decide +kernel) (show 0 = gm_na 93 by decide +kernel) fw_c0 (show 1 ≤ gm_ml 93 by decide +kernel) (Nat.le_of_ble_eq_true rfl) (by omega) (Nat.zero_le _) (Nat.zero_le _) ?_
    refine vx_c93 hE hb ?_
    show gm_Wp X LX d _ _ 94 29 _ [gm_vi 0] n K R _ Q
    refine gm_sz (gm_p_pop (pc := 29) (by decide +kernel) fw_si) ?_
    refine gm_sz (gm_p_const (pc := 30) (i := .iconst (-1)) (v := gm_vi (-1)) (by decide +kernel) (by decide +kernel)) ?_
    exact gm_r_int (pc := 31) (by decide +kernel) (Or.inl (by decide +kernel)) (h0 (by omega))
  · have j1 : (tx_k (M 2) e b) = 258 := Classical.not_not.mp j1
    refine gm_sz (gm_p_load (pc := 15) (i := .iload_n 3) (sr := 0) (j := 3) (by decide +kernel) rfl rfl rfl) ?_
    refine gm_sz (gm_p_load (pc := 16) (i := .iload_n 1) (sr := 0) (j := 1) (by decide +kernel) rfl rfl rfl) ?_
    refine fw_ic (cc := .lt) (pc := 17) (off := 8) (by decide +kernel) (by decide) ⟨by omega, by omega⟩ ⟨by omega, by omega⟩ (fun j2 => ?_) (fun j2 => ?_)
    · have j2 : (tx_v (M 2) e 4 b) < lo := j2
      refine gm_sz (gm_p_load (pc := 25) (i := .aload_n 0) (sr := 2) (j := 0) (by decide +kernel) rfl rfl rfl) ?_
      refine gm_c_virt (k := 214) (ci := 8) (mj := 93) (ix := 69) (pc := 26) (as := []) (st := []) (d' := d - 1) (bc' := 0) (bs' := 0) (by decide +kernel) (by decide +kernel) (by decide +kernel) (by decide +kernel) (vE214 hE).1 (vE214 hE).2 (by decide) (by decide +kernel) (show 0 = gm_na 93 by decide +kernel) fw_c0 (show 1 ≤ gm_ml 93 by decide +kernel) (Nat.le_of_ble_eq_true rfl) (by omega) (Nat.zero_le _) (Nat.zero_le _) ?_
      refine vx_c93 hE hb ?_
      show gm_Wp X LX d _ _ 94 29 _ [gm_vi 0] n K R _ Q
      refine gm_sz (gm_p_pop (pc := 29) (by decide +kernel) fw_si) ?_
      refine gm_sz (gm_p_const (pc := 30) (i := .iconst (-1)) (v := gm_vi (-1)) (by decide +kernel) (by decide +kernel)) ?_
      exact gm_r_int (pc := 31) (by decide +kernel) (Or.inl (by decide +kernel)) (h0 (by omega))
    · have j2 : ¬ (tx_v (M 2) e 4 b) < lo := j2
      refine gm_sz (gm_p_load (pc := 20) (i := .iload_n 3) (sr := 0) (j := 3) (by decide +kernel) rfl rfl rfl) ?_
      refine gm_sz (gm_p_load (pc := 21) (i := .iload_n 2) (sr := 0) (j := 2) (by decide +kernel) rfl rfl rfl) ?_
      refine fw_ic (cc := .le) (pc := 22) (off := 10) (by decide +kernel) (by decide) ⟨by omega, by omega⟩ ⟨by omega, by omega⟩ (fun j3 => ?_) (fun j3 => ?_)
      · have j3 : (tx_v (M 2) e 4 b) ≤ hi := j3
        refine gm_sz (gm_p_load (pc := 32) (i := .aload_n 0) (sr := 2) (j := 0) (by decide +kernel) rfl rfl rfl) ?_
        refine gm_c_virt (k := 214) (ci := 8) (mj := 76) (ix := 43) (pc := 33) (as := []) (st := []) (d' := d - 1) (bc' := 0) (bs' := 0) (by decide +kernel) (by decide +kernel) (by decide +kernel) (by decide +kernel) (vE214 hE).1 (vE214 hE).2 (by decide) (by decide +kernel) (show 0 = gm_na 76 by decide +kernel) fw_c0 (show 1 ≤ gm_ml 76 by decide +kernel) (Nat.le_of_ble_eq_true rfl) (by omega) (Nat.zero_le _) (Nat.zero_le _) ?_
        refine vx_c76 (by omega) hE hb ?_
        show gm_Wp X LX d _ _ 94 36 _ [] n K R _ Q
        have g4 : 0 ≤ tx_n (M 2) e b ∧ tx_n (M 2) e b ≤ e := by have := tx_nb (f := M 2) (b := b) hb.2; omega
        refine gm_sz (gm_p_load (pc := 36) (i := .iload_n 3) (sr := 0) (j := 3) (by decide +kernel) rfl rfl rfl) ?_
        exact gm_r_int (pc := 37) (by decide +kernel) (Or.inl (by decide +kernel)) (h1 (by omega) (by omega) (by omega))
      · have j3 : ¬ (tx_v (M 2) e 4 b) ≤ hi := j3
        refine gm_sz (gm_p_load (pc := 25) (i := .aload_n 0) (sr := 2) (j := 0) (by decide +kernel) rfl rfl rfl) ?_
        refine gm_c_virt (k := 214) (ci := 8) (mj := 93) (ix := 69) (pc := 26) (as := []) (st := []) (d' := d - 1) (bc' := 0) (bs' := 0) (by decide +kernel) (by decide +kernel) (by decide +kernel) (by decide +kernel) (vE214 hE).1 (vE214 hE).2 (by decide) (by decide +kernel) (show 0 = gm_na 93 by decide +kernel) fw_c0 (show 1 ≤ gm_ml 93 by decide +kernel) (Nat.le_of_ble_eq_true rfl) (by omega) (Nat.zero_le _) (Nat.zero_le _) ?_
        refine vx_c93 hE hb ?_
        show gm_Wp X LX d _ _ 94 29 _ [gm_vi 0] n K R _ Q
        refine gm_sz (gm_p_pop (pc := 29) (by decide +kernel) fw_si) ?_
        refine gm_sz (gm_p_const (pc := 30) (i := .iconst (-1)) (v := gm_vi (-1)) (by decide +kernel) (by decide +kernel)) ?_
        exact gm_r_int (pc := 31) (by decide +kernel) (Or.inl (by decide +kernel)) (h0 (by omega))

end VW
