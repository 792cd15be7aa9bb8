/-! CALLS THAT ONLY ASK, without loops: class and reference answer alike. -/
section SA51
variable {X : Int → Int} {LX d bc bs n g z g1 : Nat} {la : Nat → Nat} {K : gm_K} {R : gm_R} {M : gm_M} {N : Int → Int} {lw : Option (List lln)} {A : List (Int → Int)} {im : Option ((Int → Int) × Option (List lln))} {t w : Int} {f : Int → Int} {a b c e : Int} {NC : Nat} {C Ln G : Int → Int}
noncomputable def q_speed (N : Int → Int) (a : Int) (b : Int) : Int × Int := tif (¬ ((0 ≤ a ∧ a < N 0) ∧ (0 ≤ b ∧ b < N 1))) (1, 0) (0, nsp N a b)
theorem iq_speed : gm_ir (q_speed N a b).1 := by
  unfold q_speed
  exact tif_ir (show (-2147483648 : Int) ≤ 1 ∧ (1 : Int) < 2147483648 from by decide) ((show (-2147483648 : Int) ≤ 0 ∧ (0 : Int) < 2147483648 from by decide))
theorem cq_speed (hd : 24 ≤ d) (hbc : 4 ≤ bc) (hbs : 24 ≤ bs) (hE : E0 n K R) (hn : 245 ≤ n) (hK : K 245 = (2, 1)) (hG : GJ N) (hV : CLV N lw A im t w f M) (ia : gm_ir a) (ib : gm_ir b) : gm_Wp X LX d bc bs 131 0 (gm_ent 131 [gm_vr 1, gm_vi a, gm_vi b]) [] n K R M (hQ [(3, 1)] (CF (q_speed N a b).1 (oV (q_speed N a b).1 (q_speed N a b).2))) := by
  exact cl_speed (Nat.le_trans (by decide) hd) hbc hbs hE hV.1.1 hG.1.1 ia ib (fun h => by rw [show spd N a b = nsp N a b from if_pos ⟨h.1.2, h.2.2⟩]; exact hQ_v hn hK (cf_v hK (tif_f (fun hh => hh h)) rfl)) (fun h => hQ_x hn hK (c := 1) (by decide) (cf_x hK (tif_t h) (by decide)))
theorem rq_speed (hd : 24 ≤ d) (hE : E0 n K R) (hS6 : NSb 6 N) (hG : GJ N) (hV : RFV N lw A im t w f M) (ia : gm_ir a) (ib : gm_ir b) : gm_Wp X LX d bc bs 287 0 (gm_ent 287 [gm_vr 226, gm_vi a, gm_vi b]) [] n K R M (RF (q_speed N a b).1 (q_speed N a b).2) := by
  have k226 := k226 hE
  exact re_speed (Nat.le_trans (by decide) hd) hE hV.1.1 hG.1.1 hS6 ia ib (fun h M2 h0 => rf_e k226 (tif_f (fun hh => hh h)) (fun _ => rfl) h0) (fun h M2 h0 => rf_e k226 (tif_t h) (fun e => absurd e (by decide)) h0)
theorem fw_speed (hb : bg g la K R M) (hR : REL la K M N lw A im t w f) (ia : gm_ir a) (ib : gm_ir b) : ∀ z g1, bs_ok la z g1 → ¬ z = 100003 → gm_Wp X LX 279 6 600 130 0 (gm_ent 130 (gm_vr 1 :: bc_as [a, b] true)) [] (245 + 4 * g1) (bs_K la K) (bs_R z g1) (bs_M la M) (CF (q_speed N a b).1 (oV (q_speed N a b).1 (q_speed N a b).2)) := by
  intro z g1 hz hz3
  have hE := e0_w hb hz
  exact hl_130 (d := 278) (k1_e hE) (cq_speed (by decide) (by decide) (by decide) hE (k245 hE).1 (k245 hE).2 hR.1.1 (clv_w hb hR.2.2.1) ia ib)
theorem fm_speed (hb : bg g la K R M) (hR : REL la K M N lw A im t w f) (ia : gm_ir a) (ib : gm_ir b) : gm_Wp X LX 279 6 600 287 0 (gm_ent 287 (gm_vr 226 :: [a, b].map gm_vi)) [] 245 (bs_K la K) (bs_R 100003 0) (bs_M la M) (RF (q_speed N a b).1 (q_speed N a b).2) := rq_speed (by decide) (e0_w hb (Or.inr (Or.inl ⟨rfl, rfl⟩))) (ns6 (bs_F0 (z := 100003) hb) (rfv_w (la := la) hR.2.2.2).1.1.1 hR.1.1.1.1) hR.1.1 (rfv_w hR.2.2.2) ia ib
end SA51
