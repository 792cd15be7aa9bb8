/-! 7d00.ls -/
section
/-! THE LAW'S CALLS: their rows, by name (laid by wip/rel/gq.py). -/
noncomputable def ax_feed : List ck_Sum := [p2_s5]
theorem ax_feed_s {X : Int → Int} {LX : Nat} : ∀ S ∈ ax_feed, ck_Ok p2_O X LX 19 S := ck_S1 p2_s5_s ck_S0
theorem ax_feed_c : ax_feed.all (w_x p2_O 0 0 1 false) = true := by decide +kernel
theorem ax_feed_v : bc_cov 60 [(-2147483648, 2147483647), (-2147483648, 2147483647), (-2147483648, 2147483647), (-2147483648, 2147483647), (-2147483648, 2147483647)] (ax_feed.map bc_box) = true := by decide +kernel
noncomputable def al_feed : List ck_Sum := [pl_s5]
theorem al_feed_s {X : Int → Int} {LX : Nat} : ∀ S ∈ al_feed, ck_Ok p2_OL X LX 19 S := ck_S1 pl_s5_s ck_S0
theorem al_feed_c : al_feed.all (w_x p2_OL 246 1 1 false) = true := by decide +kernel
theorem al_feed_v : bc_cov 60 [(-2147483648, 2147483647), (-2147483648, 2147483647), (-2147483648, 2147483647), (-2147483648, 2147483647), (-2147483648, 2147483647)] (al_feed.map bc_box) = true := by decide +kernel
noncomputable def am_feed : List ck_Sum := [p2_s6]
theorem am_feed_s {X : Int → Int} {LX : Nat} : ∀ S ∈ am_feed, ck_Ok p2_O X LX 239 S := ck_S1 p2_s6_s ck_S0
theorem am_feed_c : am_feed.all (w_m) = true := by decide +kernel
theorem am_feed_v : bc_cov 60 [(-2147483648, 2147483647), (-2147483648, 2147483647), (-2147483648, 2147483647), (-2147483648, 2147483647), (-2147483648, 2147483647)] (am_feed.map bc_box) = true := by decide +kernel
noncomputable def ax_valley : List ck_Sum := [p2_h0]
theorem ax_valley_s {X : Int → Int} {LX : Nat} : ∀ S ∈ ax_valley, ck_Ok p2_O X LX 70 S := ck_S1 p2_h0_s ck_S0
theorem ax_valley_c : ax_valley.all (w_x p2_O 0 0 1 true) = true := by decide +kernel
theorem ax_valley_v : bc_cov 60 [] (ax_valley.map bc_box) = true := by decide +kernel
noncomputable def al_valley : List ck_Sum := [pl_h0]
theorem al_valley_s {X : Int → Int} {LX : Nat} : ∀ S ∈ al_valley, ck_Ok p2_OL X LX 70 S := ck_S1 pl_h0_s ck_S0
theorem al_valley_c : al_valley.all (w_x p2_OL 246 1 1 true) = true := by decide +kernel
theorem al_valley_v : bc_cov 60 [] (al_valley.map bc_box) = true := by decide +kernel
noncomputable def am_valley : List ck_Sum := [p2_s246]
theorem am_valley_s {X : Int → Int} {LX : Nat} : ∀ S ∈ am_valley, ck_Ok p2_O X LX 242 S := ck_S1 p2_s246_s ck_S0
theorem am_valley_c : am_valley.all (w_m) = true := by decide +kernel
theorem am_valley_v : bc_cov 60 [] (am_valley.map bc_box) = true := by decide +kernel
theorem z0_p2_s247 {X : Int → Int} {LX : Nat} : ck_Ok q0_O X LX 22 p2_s247 := q0_l p2_s247_s (by decide +kernel)
noncomputable def ax_fault : List ck_Sum := [p2_s247]
theorem ax_fault_s {X : Int → Int} {LX : Nat} : ∀ S ∈ ax_fault, ck_Ok q0_O X LX 22 S := ck_S1 z0_p2_s247 ck_S0
theorem ax_fault_c : ax_fault.all (fun S => w_k q0_O 0 0 1 false S && w_r true S) = true := by decide +kernel
theorem ax_fault_v : bc_cov 60 [] (ax_fault.map bc_box) = true := by decide +kernel
theorem zL_pl_s144 {X : Int → Int} {LX : Nat} : ck_Ok qL_O X LX 22 pl_s144 := qL_l pl_s144_s (by decide +kernel)
noncomputable def al_fault : List ck_Sum := [pl_s144]
theorem al_fault_s {X : Int → Int} {LX : Nat} : ∀ S ∈ al_fault, ck_Ok qL_O X LX 22 S := ck_S1 zL_pl_s144 ck_S0
theorem al_fault_c : al_fault.all (fun S => w_k qL_O 246 1 1 false S && w_r true S) = true := by decide +kernel
theorem al_fault_v : bc_cov 60 [] (al_fault.map bc_box) = true := by decide +kernel
theorem zR_p2_s248 {X : Int → Int} {LX : Nat} : ck_Ok qR_O X LX 241 p2_s248 := qR_l p2_s248_s (by decide +kernel)
noncomputable def am_fault : List ck_Sum := [p2_s248]
theorem am_fault_s {X : Int → Int} {LX : Nat} : ∀ S ∈ am_fault, ck_Ok qR_O X LX 241 S := ck_S1 zR_p2_s248 ck_S0
theorem am_fault_c : am_fault.all (fun S => w_kR S && w_r true S) = true := by decide +kernel
theorem am_fault_v : bc_cov 60 [] (am_fault.map bc_box) = true := by decide +kernel
theorem z0_p2_h1 {X : Int → Int} {LX : Nat} : ck_Ok q0_O X LX 127 p2_h1 := q0_l p2_h1_s (by decide +kernel)
theorem z0_p2_h2 {X : Int → Int} {LX : Nat} : ck_Ok q0_O X LX 127 p2_h2 := q0_l p2_h2_s (by decide +kernel)
theorem z0_p2_h3 {X : Int → Int} {LX : Nat} : ck_Ok q0_O X LX 127 p2_h3 := q0_l p2_h3_s (by decide +kernel)
noncomputable def ax_heat : List ck_Sum := [p2_h1, p2_h2, p2_h3]
theorem ax_heat_s {X : Int → Int} {LX : Nat} : ∀ S ∈ ax_heat, ck_Ok q0_O X LX 127 S := ck_S1 z0_p2_h1 (ck_S1 z0_p2_h2 (ck_S1 z0_p2_h3 ck_S0))
theorem ax_heat_c : ax_heat.all (fun S => w_k q0_O 0 0 1 true S && w_r true S) = true := by decide +kernel
theorem ax_heat_v : bc_cov 60 [(-2147483648, 2147483647)] (ax_heat.map bc_box) = true := by decide +kernel
theorem zL_pl_h1 {X : Int → Int} {LX : Nat} : ck_Ok qL_O X LX 127 pl_h1 := qL_l pl_h1_s (by decide +kernel)
theorem zL_pl_h2 {X : Int → Int} {LX : Nat} : ck_Ok qL_O X LX 127 pl_h2 := qL_l pl_h2_s (by decide +kernel)
theorem zL_pl_h3 {X : Int → Int} {LX : Nat} : ck_Ok qL_O X LX 127 pl_h3 := qL_l pl_h3_s (by decide +kernel)
noncomputable def al_heat : List ck_Sum := [pl_h1, pl_h2, pl_h3]
theorem al_heat_s {X : Int → Int} {LX : Nat} : ∀ S ∈ al_heat, ck_Ok qL_O X LX 127 S := ck_S1 zL_pl_h1 (ck_S1 zL_pl_h2 (ck_S1 zL_pl_h3 ck_S0))
theorem al_heat_c : al_heat.all (fun S => w_k qL_O 246 1 1 true S && w_r true S) = true := by decide +kernel
theorem al_heat_v : bc_cov 60 [(-2147483648, 2147483647)] (al_heat.map bc_box) = true := by decide +kernel
theorem zR_p2_s258 {X : Int → Int} {LX : Nat} : ck_Ok qR_O X LX 284 p2_s258 := qR_l p2_s258_s (by decide +kernel)
theorem zR_p2_s261 {X : Int → Int} {LX : Nat} : ck_Ok qR_O X LX 284 p2_s261 := qR_l p2_s261_s (by decide +kernel)
theorem zR_p2_s264 {X : Int → Int} {LX : Nat} : ck_Ok qR_O X LX 284 p2_s264 := qR_l p2_s264_s (by decide +kernel)
noncomputable def am_heat : List ck_Sum := [p2_s258, p2_s261, p2_s264]
theorem am_heat_s {X : Int → Int} {LX : Nat} : ∀ S ∈ am_heat, ck_Ok qR_O X LX 284 S := ck_S1 zR_p2_s258 (ck_S1 zR_p2_s261 (ck_S1 zR_p2_s264 ck_S0))
theorem am_heat_c : am_heat.all (fun S => w_kR S && w_r true S) = true := by decide +kernel
theorem am_heat_v : bc_cov 60 [(-2147483648, 2147483647)] (am_heat.map bc_box) = true := by decide +kernel
theorem z0_p2_h4 {X : Int → Int} {LX : Nat} : ck_Ok q0_O X LX 130 p2_h4 := q0_l p2_h4_s (by decide +kernel)
theorem z0_p2_h5 {X : Int → Int} {LX : Nat} : ck_Ok q0_O X LX 130 p2_h5 := q0_l p2_h5_s (by decide +kernel)
theorem z0_p2_h6 {X : Int → Int} {LX : Nat} : ck_Ok q0_O X LX 130 p2_h6 := q0_l p2_h6_s (by decide +kernel)
theorem z0_p2_h7 {X : Int → Int} {LX : Nat} : ck_Ok q0_O X LX 130 p2_h7 := q0_l p2_h7_s (by decide +kernel)
theorem z0_p2_h8 {X : Int → Int} {LX : Nat} : ck_Ok q0_O X LX 130 p2_h8 := q0_l p2_h8_s (by decide +kernel)
noncomputable def ax_speed : List ck_Sum := [p2_h4, p2_h5, p2_h6, p2_h7, p2_h8]
theorem ax_speed_s {X : Int → Int} {LX : Nat} : ∀ S ∈ ax_speed, ck_Ok q0_O X LX 130 S := ck_S1 z0_p2_h4 (ck_S1 z0_p2_h5 (ck_S1 z0_p2_h6 (ck_S1 z0_p2_h7 (ck_S1 z0_p2_h8 ck_S0))))
theorem ax_speed_c : ax_speed.all (fun S => w_k q0_O 0 0 1 true S && w_r true S) = true := by decide +kernel
theorem ax_speed_v : bc_cov 60 [(-2147483648, 2147483647), (-2147483648, 2147483647)] (ax_speed.map bc_box) = true := by decide +kernel
theorem zL_pl_h4 {X : Int → Int} {LX : Nat} : ck_Ok qL_O X LX 130 pl_h4 := qL_l pl_h4_s (by decide +kernel)
theorem zL_pl_h5 {X : Int → Int} {LX : Nat} : ck_Ok qL_O X LX 130 pl_h5 := qL_l pl_h5_s (by decide +kernel)
theorem zL_pl_h6 {X : Int → Int} {LX : Nat} : ck_Ok qL_O X LX 130 pl_h6 := qL_l pl_h6_s (by decide +kernel)
theorem zL_pl_h7 {X : Int → Int} {LX : Nat} : ck_Ok qL_O X LX 130 pl_h7 := qL_l pl_h7_s (by decide +kernel)
theorem zL_pl_h8 {X : Int → Int} {LX : Nat} : ck_Ok qL_O X LX 130 pl_h8 := qL_l pl_h8_s (by decide +kernel)
noncomputable def al_speed : List ck_Sum := [pl_h4, pl_h5, pl_h6, pl_h7, pl_h8]
theorem al_speed_s {X : Int → Int} {LX : Nat} : ∀ S ∈ al_speed, ck_Ok qL_O X LX 130 S := ck_S1 zL_pl_h4 (ck_S1 zL_pl_h5 (ck_S1 zL_pl_h6 (ck_S1 zL_pl_h7 (ck_S1 zL_pl_h8 ck_S0))))
theorem al_speed_c : al_speed.all (fun S => w_k qL_O 246 1 1 true S && w_r true S) = true := by decide +kernel
theorem al_speed_v : bc_cov 60 [(-2147483648, 2147483647), (-2147483648, 2147483647)] (al_speed.map bc_box) = true := by decide +kernel
theorem zR_p2_s285 {X : Int → Int} {LX : Nat} : ck_Ok qR_O X LX 287 p2_s285 := qR_l p2_s285_s (by decide +kernel)
theorem zR_p2_s288 {X : Int → Int} {LX : Nat} : ck_Ok qR_O X LX 287 p2_s288 := qR_l p2_s288_s (by decide +kernel)
theorem zR_p2_s293 {X : Int → Int} {LX : Nat} : ck_Ok qR_O X LX 287 p2_s293 := qR_l p2_s293_s (by decide +kernel)
theorem zR_p2_s296 {X : Int → Int} {LX : Nat} : ck_Ok qR_O X LX 287 p2_s296 := qR_l p2_s296_s (by decide +kernel)
theorem zR_p2_s300 {X : Int → Int} {LX : Nat} : ck_Ok qR_O X LX 287 p2_s300 := qR_l p2_s300_s (by decide +kernel)
noncomputable def am_speed : List ck_Sum := [p2_s285, p2_s288, p2_s293, p2_s296, p2_s300]
theorem am_speed_s {X : Int → Int} {LX : Nat} : ∀ S ∈ am_speed, ck_Ok qR_O X LX 287 S := ck_S1 zR_p2_s285 (ck_S1 zR_p2_s288 (ck_S1 zR_p2_s293 (ck_S1 zR_p2_s296 (ck_S1 zR_p2_s300 ck_S0))))
theorem am_speed_c : am_speed.all (fun S => w_kR S && w_r true S) = true := by decide +kernel
theorem am_speed_v : bc_cov 60 [(-2147483648, 2147483647), (-2147483648, 2147483647)] (am_speed.map bc_box) = true := by decide +kernel
theorem z0_p2_h9 {X : Int → Int} {LX : Nat} : ck_Ok q0_O X LX 135 p2_h9 := q0_l p2_h9_s (by decide +kernel)
theorem z0_p2_h10 {X : Int → Int} {LX : Nat} : ck_Ok q0_O X LX 135 p2_h10 := q0_l p2_h10_s (by decide +kernel)
theorem z0_p2_h11 {X : Int → Int} {LX : Nat} : ck_Ok q0_O X LX 135 p2_h11 := q0_l p2_h11_s (by decide +kernel)
theorem z0_p2_h12 {X : Int → Int} {LX : Nat} : ck_Ok q0_O X LX 135 p2_h12 := q0_l p2_h12_s (by decide +kernel)
theorem z0_p2_h13 {X : Int → Int} {LX : Nat} : ck_Ok q0_O X LX 135 p2_h13 := q0_l p2_h13_s (by decide +kernel)
theorem z0_p2_h14 {X : Int → Int} {LX : Nat} : ck_Ok q0_O X LX 135 p2_h14 := q0_l p2_h14_s (by decide +kernel)
theorem z0_p2_h15 {X : Int → Int} {LX : Nat} : ck_Ok q0_O X LX 135 p2_h15 := q0_l p2_h15_s (by decide +kernel)
noncomputable def ax_flow : List ck_Sum := [p2_h9, p2_h10, p2_h11, p2_h12, p2_h13, p2_h14, p2_h15]
theorem ax_flow_s {X : Int → Int} {LX : Nat} : ∀ S ∈ ax_flow, ck_Ok q0_O X LX 135 S := ck_S1 z0_p2_h9 (ck_S1 z0_p2_h10 (ck_S1 z0_p2_h11 (ck_S1 z0_p2_h12 (ck_S1 z0_p2_h13 (ck_S1 z0_p2_h14 (ck_S1 z0_p2_h15 ck_S0))))))
theorem ax_flow_c : ax_flow.all (fun S => w_k q0_O 0 0 1 true S && w_r true S) = true := by decide +kernel
theorem ax_flow_v : bc_cov 60 [(-2147483648, 2147483647), (-2147483648, 2147483647), (-2147483648, 2147483647)] (ax_flow.map bc_box) = true := by decide +kernel
theorem zL_pl_h9 {X : Int → Int} {LX : Nat} : ck_Ok qL_O X LX 135 pl_h9 := qL_l pl_h9_s (by decide +kernel)
theorem zL_pl_h10 {X : Int → Int} {LX : Nat} : ck_Ok qL_O X LX 135 pl_h10 := qL_l pl_h10_s (by decide +kernel)
theorem zL_pl_h11 {X : Int → Int} {LX : Nat} : ck_Ok qL_O X LX 135 pl_h11 := qL_l pl_h11_s (by decide +kernel)
theorem zL_pl_h12 {X : Int → Int} {LX : Nat} : ck_Ok qL_O X LX 135 pl_h12 := qL_l pl_h12_s (by decide +kernel)
theorem zL_pl_h13 {X : Int → Int} {LX : Nat} : ck_Ok qL_O X LX 135 pl_h13 := qL_l pl_h13_s (by decide +kernel)
theorem zL_pl_h14 {X : Int → Int} {LX : Nat} : ck_Ok qL_O X LX 135 pl_h14 := qL_l pl_h14_s (by decide +kernel)
noncomputable def al_flow : List ck_Sum := [pl_h9, pl_h10, pl_h11, pl_h12, pl_h13, pl_h14, q_pl_h15]
theorem al_flow_s {X : Int → Int} {LX : Nat} : ∀ S ∈ al_flow, ck_Ok qL_O X LX 135 S := ck_S1 zL_pl_h9 (ck_S1 zL_pl_h10 (ck_S1 zL_pl_h11 (ck_S1 zL_pl_h12 (ck_S1 zL_pl_h13 (ck_S1 zL_pl_h14 (ck_S1 q_pl_h15_s ck_S0))))))
theorem al_flow_c : al_flow.all (fun S => w_k qL_O 246 1 1 true S && w_r true S) = true := by decide +kernel
theorem al_flow_v : bc_cov 60 [(-2147483648, 2147483647), (-2147483648, 2147483647), (-2147483648, 2147483647)] (al_flow.map bc_box) = true := by decide +kernel
theorem zR_p2_s310 {X : Int → Int} {LX : Nat} : ck_Ok qR_O X LX 291 p2_s310 := qR_l p2_s310_s (by decide +kernel)
theorem zR_p2_s311 {X : Int → Int} {LX : Nat} : ck_Ok qR_O X LX 291 p2_s311 := qR_l p2_s311_s (by decide +kernel)
theorem zR_p2_s312 {X : Int → Int} {LX : Nat} : ck_Ok qR_O X LX 291 p2_s312 := qR_l p2_s312_s (by decide +kernel)
theorem zR_p2_s313 {X : Int → Int} {LX : Nat} : ck_Ok qR_O X LX 291 p2_s313 := qR_l p2_s313_s (by decide +kernel)
theorem zR_p2_s314 {X : Int → Int} {LX : Nat} : ck_Ok qR_O X LX 291 p2_s314 := qR_l p2_s314_s (by decide +kernel)
theorem zR_p2_s315 {X : Int → Int} {LX : Nat} : ck_Ok qR_O X LX 291 p2_s315 := qR_l p2_s315_s (by decide +kernel)
noncomputable def am_flow : List ck_Sum := [p2_s310, p2_s311, p2_s312, p2_s313, p2_s314, p2_s315, q_p2_s319]
theorem am_flow_s {X : Int → Int} {LX : Nat} : ∀ S ∈ am_flow, ck_Ok qR_O X LX 291 S := ck_S1 zR_p2_s310 (ck_S1 zR_p2_s311 (ck_S1 zR_p2_s312 (ck_S1 zR_p2_s313 (ck_S1 zR_p2_s314 (ck_S1 zR_p2_s315 (ck_S1 q_p2_s319_s ck_S0))))))
theorem am_flow_c : am_flow.all (fun S => w_kR S && w_r true S) = true := by decide +kernel
theorem am_flow_v : bc_cov 60 [(-2147483648, 2147483647), (-2147483648, 2147483647), (-2147483648, 2147483647)] (am_flow.map bc_box) = true := by decide +kernel
theorem z0_p2_h16 {X : Int → Int} {LX : Nat} : ck_Ok q0_O X LX 137 p2_h16 := q0_l p2_h16_s (by decide +kernel)
theorem z0_p2_h17 {X : Int → Int} {LX : Nat} : ck_Ok q0_O X LX 137 p2_h17 := q0_l p2_h17_s (by decide +kernel)
theorem z0_p2_h18 {X : Int → Int} {LX : Nat} : ck_Ok q0_O X LX 137 p2_h18 := q0_l p2_h18_s (by decide +kernel)
theorem z0_p2_h19 {X : Int → Int} {LX : Nat} : ck_Ok q0_O X LX 137 p2_h19 := q0_l p2_h19_s (by decide +kernel)
noncomputable def ax_person : List ck_Sum := [p2_h16, p2_h17, p2_h18, p2_h19, q_p2_h20]
theorem ax_person_s {X : Int → Int} {LX : Nat} : ∀ S ∈ ax_person, ck_Ok q0_O X LX 137 S := ck_S1 z0_p2_h16 (ck_S1 z0_p2_h17 (ck_S1 z0_p2_h18 (ck_S1 z0_p2_h19 (ck_S1 q_p2_h20_s ck_S0))))
theorem ax_person_c : ax_person.all (fun S => w_k q0_O 0 0 1 true S && w_r true S) = true := by decide +kernel
theorem ax_person_v : bc_cov 60 [(-2147483648, 2147483647), (-2147483648, 2147483647)] (ax_person.map bc_box) = true := by decide +kernel
theorem zL_pl_h16 {X : Int → Int} {LX : Nat} : ck_Ok qL_O X LX 137 pl_h16 := qL_l pl_h16_s (by decide +kernel)
theorem zL_pl_h17 {X : Int → Int} {LX : Nat} : ck_Ok qL_O X LX 137 pl_h17 := qL_l pl_h17_s (by decide +kernel)
theorem zL_pl_h18 {X : Int → Int} {LX : Nat} : ck_Ok qL_O X LX 137 pl_h18 := qL_l pl_h18_s (by decide +kernel)
theorem zL_pl_h19 {X : Int → Int} {LX : Nat} : ck_Ok qL_O X LX 137 pl_h19 := qL_l pl_h19_s (by decide +kernel)
noncomputable def al_person : List ck_Sum := [pl_h16, pl_h17, pl_h18, pl_h19, q_pl_h20]
theorem al_person_s {X : Int → Int} {LX : Nat} : ∀ S ∈ al_person, ck_Ok qL_O X LX 137 S := ck_S1 zL_pl_h16 (ck_S1 zL_pl_h17 (ck_S1 zL_pl_h18 (ck_S1 zL_pl_h19 (ck_S1 q_pl_h20_s ck_S0))))
theorem al_person_c : al_person.all (fun S => w_k qL_O 246 1 1 true S && w_r true S) = true := by decide +kernel
theorem al_person_v : bc_cov 60 [(-2147483648, 2147483647), (-2147483648, 2147483647)] (al_person.map bc_box) = true := by decide +kernel
theorem zR_p2_s360 {X : Int → Int} {LX : Nat} : ck_Ok qR_O X LX 297 p2_s360 := qR_l p2_s360_s (by decide +kernel)
theorem zR_p2_s363 {X : Int → Int} {LX : Nat} : ck_Ok qR_O X LX 297 p2_s363 := qR_l p2_s363_s (by decide +kernel)
theorem zR_p2_s367 {X : Int → Int} {LX : Nat} : ck_Ok qR_O X LX 297 p2_s367 := qR_l p2_s367_s (by decide +kernel)
theorem zR_p2_s369 {X : Int → Int} {LX : Nat} : ck_Ok qR_O X LX 297 p2_s369 := qR_l p2_s369_s (by decide +kernel)
noncomputable def am_person : List ck_Sum := [p2_s360, p2_s363, p2_s367, p2_s369, q_p2_s385]
theorem am_person_s {X : Int → Int} {LX : Nat} : ∀ S ∈ am_person, ck_Ok qR_O X LX 297 S := ck_S1 zR_p2_s360 (ck_S1 zR_p2_s363 (ck_S1 zR_p2_s367 (ck_S1 zR_p2_s369 (ck_S1 q_p2_s385_s ck_S0))))
theorem am_person_c : am_person.all (fun S => w_kR S && w_r true S) = true := by decide +kernel
theorem am_person_v : bc_cov 60 [(-2147483648, 2147483647), (-2147483648, 2147483647)] (am_person.map bc_box) = true := by decide +kernel
theorem z0_p2_h21 {X : Int → Int} {LX : Nat} : ck_Ok q0_O X LX 141 p2_h21 := q0_l p2_h21_s (by decide +kernel)
theorem z0_p2_h22 {X : Int → Int} {LX : Nat} : ck_Ok q0_O X LX 141 p2_h22 := q0_l p2_h22_s (by decide +kernel)
theorem z0_p2_h23 {X : Int → Int} {LX : Nat} : ck_Ok q0_O X LX 141 p2_h23 := q0_l p2_h23_s (by decide +kernel)
theorem z0_p2_h24 {X : Int → Int} {LX : Nat} : ck_Ok q0_O X LX 141 p2_h24 := q0_l p2_h24_s (by decide +kernel)
theorem z0_p2_h25 {X : Int → Int} {LX : Nat} : ck_Ok q0_O X LX 141 p2_h25 := q0_l p2_h25_s (by decide +kernel)
noncomputable def ax_letter : List ck_Sum := [p2_h21, p2_h22, p2_h23, p2_h24, p2_h25]
theorem ax_letter_s {X : Int → Int} {LX : Nat} : ∀ S ∈ ax_letter, ck_Ok q0_O X LX 141 S := ck_S1 z0_p2_h21 (ck_S1 z0_p2_h22 (ck_S1 z0_p2_h23 (ck_S1 z0_p2_h24 (ck_S1 z0_p2_h25 ck_S0))))
theorem ax_letter_c : ax_letter.all (fun S => w_k q0_O 0 0 1 true S && w_r true S) = true := by decide +kernel
theorem ax_letter_v : bc_cov 60 [(-2147483648, 2147483647), (-2147483648, 2147483647)] (ax_letter.map bc_box) = true := by decide +kernel
theorem zL_pl_h21 {X : Int → Int} {LX : Nat} : ck_Ok qL_O X LX 141 pl_h21 := qL_l pl_h21_s (by decide +kernel)
theorem zL_pl_h22 {X : Int → Int} {LX : Nat} : ck_Ok qL_O X LX 141 pl_h22 := qL_l pl_h22_s (by decide +kernel)
theorem zL_pl_h23 {X : Int → Int} {LX : Nat} : ck_Ok qL_O X LX 141 pl_h23 := qL_l pl_h23_s (by decide +kernel)
theorem zL_pl_h24 {X : Int → Int} {LX : Nat} : ck_Ok qL_O X LX 141 pl_h24 := qL_l pl_h24_s (by decide +kernel)
noncomputable def al_letter : List ck_Sum := [pl_h21, pl_h22, pl_h23, pl_h24, q_pl_h25]
theorem al_letter_s {X : Int → Int} {LX : Nat} : ∀ S ∈ al_letter, ck_Ok qL_O X LX 141 S := ck_S1 zL_pl_h21 (ck_S1 zL_pl_h22 (ck_S1 zL_pl_h23 (ck_S1 zL_pl_h24 (ck_S1 q_pl_h25_s ck_S0))))
theorem al_letter_c : al_letter.all (fun S => w_k qL_O 246 1 1 true S && w_r true S) = true := by decide +kernel
theorem al_letter_v : bc_cov 60 [(-2147483648, 2147483647), (-2147483648, 2147483647)] (al_letter.map bc_box) = true := by decide +kernel
theorem zR_p2_s401 {X : Int → Int} {LX : Nat} : ck_Ok qR_O X LX 308 p2_s401 := qR_l p2_s401_s (by decide +kernel)
theorem zR_p2_s404 {X : Int → Int} {LX : Nat} : ck_Ok qR_O X LX 308 p2_s404 := qR_l p2_s404_s (by decide +kernel)
theorem zR_p2_s408 {X : Int → Int} {LX : Nat} : ck_Ok qR_O X LX 308 p2_s408 := qR_l p2_s408_s (by decide +kernel)
theorem zR_p2_s410 {X : Int → Int} {LX : Nat} : ck_Ok qR_O X LX 308 p2_s410 := qR_l p2_s410_s (by decide +kernel)
noncomputable def am_letter : List ck_Sum := [p2_s401, p2_s404, p2_s408, p2_s410, q_p2_s416]
theorem am_letter_s {X : Int → Int} {LX : Nat} : ∀ S ∈ am_letter, ck_Ok qR_O X LX 308 S := ck_S1 zR_p2_s401 (ck_S1 zR_p2_s404 (ck_S1 zR_p2_s408 (ck_S1 zR_p2_s410 (ck_S1 q_p2_s416_s ck_S0))))
theorem am_letter_c : am_letter.all (fun S => w_kR S && w_r true S) = true := by decide +kernel
theorem am_letter_v : bc_cov 60 [(-2147483648, 2147483647), (-2147483648, 2147483647)] (am_letter.map bc_box) = true := by decide +kernel
theorem z0_p2_h26 {X : Int → Int} {LX : Nat} : ck_Ok q0_O X LX 146 p2_h26 := q0_l p2_h26_s (by decide +kernel)
theorem z0_p2_h27 {X : Int → Int} {LX : Nat} : ck_Ok q0_O X LX 146 p2_h27 := q0_l p2_h27_s (by decide +kernel)
theorem z0_p2_h28 {X : Int → Int} {LX : Nat} : ck_Ok q0_O X LX 146 p2_h28 := q0_l p2_h28_s (by decide +kernel)
theorem z0_p2_h29 {X : Int → Int} {LX : Nat} : ck_Ok q0_O X LX 146 p2_h29 := q0_l p2_h29_s (by decide +kernel)
theorem z0_p2_h30 {X : Int → Int} {LX : Nat} : ck_Ok q0_O X LX 146 p2_h30 := q0_l p2_h30_s (by decide +kernel)
noncomputable def ax_where : List ck_Sum := [p2_h26, p2_h27, p2_h28, p2_h29, p2_h30]
theorem ax_where_s {X : Int → Int} {LX : Nat} : ∀ S ∈ ax_where, ck_Ok q0_O X LX 146 S := ck_S1 z0_p2_h26 (ck_S1 z0_p2_h27 (ck_S1 z0_p2_h28 (ck_S1 z0_p2_h29 (ck_S1 z0_p2_h30 ck_S0))))
theorem ax_where_c : ax_where.all (fun S => w_k q0_O 0 0 1 true S && w_r true S) = true := by decide +kernel
theorem ax_where_v : bc_cov 60 [(-2147483648, 2147483647), (-2147483648, 2147483647)] (ax_where.map bc_box) = true := by decide +kernel
theorem zL_pl_h26 {X : Int → Int} {LX : Nat} : ck_Ok qL_O X LX 146 pl_h26 := qL_l pl_h26_s (by decide +kernel)
theorem zL_pl_h27 {X : Int → Int} {LX : Nat} : ck_Ok qL_O X LX 146 pl_h27 := qL_l pl_h27_s (by decide +kernel)
theorem zL_pl_h28 {X : Int → Int} {LX : Nat} : ck_Ok qL_O X LX 146 pl_h28 := qL_l pl_h28_s (by decide +kernel)
theorem zL_pl_h29 {X : Int → Int} {LX : Nat} : ck_Ok qL_O X LX 146 pl_h29 := qL_l pl_h29_s (by decide +kernel)
noncomputable def al_where : List ck_Sum := [pl_h26, pl_h27, pl_h28, pl_h29, q_pl_h30]
theorem al_where_s {X : Int → Int} {LX : Nat} : ∀ S ∈ al_where, ck_Ok qL_O X LX 146 S := ck_S1 zL_pl_h26 (ck_S1 zL_pl_h27 (ck_S1 zL_pl_h28 (ck_S1 zL_pl_h29 (ck_S1 q_pl_h30_s ck_S0))))
theorem al_where_c : al_where.all (fun S => w_k qL_O 246 1 1 true S && w_r true S) = true := by decide +kernel
theorem al_where_v : bc_cov 60 [(-2147483648, 2147483647), (-2147483648, 2147483647)] (al_where.map bc_box) = true := by decide +kernel
theorem zR_p2_s423 {X : Int → Int} {LX : Nat} : ck_Ok qR_O X LX 313 p2_s423 := qR_l p2_s423_s (by decide +kernel)
theorem zR_p2_s424 {X : Int → Int} {LX : Nat} : ck_Ok qR_O X LX 313 p2_s424 := qR_l p2_s424_s (by decide +kernel)
theorem zR_p2_s425 {X : Int → Int} {LX : Nat} : ck_Ok qR_O X LX 313 p2_s425 := qR_l p2_s425_s (by decide +kernel)
theorem zR_p2_s426 {X : Int → Int} {LX : Nat} : ck_Ok qR_O X LX 313 p2_s426 := qR_l p2_s426_s (by decide +kernel)
noncomputable def am_where : List ck_Sum := [p2_s423, p2_s424, p2_s425, p2_s426, q_p2_s427]
theorem am_where_s {X : Int → Int} {LX : Nat} : ∀ S ∈ am_where, ck_Ok qR_O X LX 313 S := ck_S1 zR_p2_s423 (ck_S1 zR_p2_s424 (ck_S1 zR_p2_s425 (ck_S1 zR_p2_s426 (ck_S1 q_p2_s427_s ck_S0))))
theorem am_where_c : am_where.all (fun S => w_kR S && w_r true S) = true := by decide +kernel
theorem am_where_v : bc_cov 60 [(-2147483648, 2147483647), (-2147483648, 2147483647)] (am_where.map bc_box) = true := by decide +kernel
theorem z0_p2_h31 {X : Int → Int} {LX : Nat} : ck_Ok q0_O X LX 149 p2_h31 := q0_l p2_h31_s (by decide +kernel)
theorem z0_p2_h32 {X : Int → Int} {LX : Nat} : ck_Ok q0_O X LX 149 p2_h32 := q0_l p2_h32_s (by decide +kernel)
theorem z0_p2_h33 {X : Int → Int} {LX : Nat} : ck_Ok q0_O X LX 149 p2_h33 := q0_l p2_h33_s (by decide +kernel)
theorem z0_p2_h34 {X : Int → Int} {LX : Nat} : ck_Ok q0_O X LX 149 p2_h34 := q0_l p2_h34_s (by decide +kernel)
theorem z0_p2_h35 {X : Int → Int} {LX : Nat} : ck_Ok q0_O X LX 149 p2_h35 := q0_l p2_h35_s (by decide +kernel)
noncomputable def ax_deep : List ck_Sum := [p2_h31, p2_h32, p2_h33, p2_h34, p2_h35]
theorem ax_deep_s {X : Int → Int} {LX : Nat} : ∀ S ∈ ax_deep, ck_Ok q0_O X LX 149 S := ck_S1 z0_p2_h31 (ck_S1 z0_p2_h32 (ck_S1 z0_p2_h33 (ck_S1 z0_p2_h34 (ck_S1 z0_p2_h35 ck_S0))))
theorem ax_deep_c : ax_deep.all (fun S => w_k q0_O 0 0 1 true S && w_r true S) = true := by decide +kernel
theorem ax_deep_v : bc_cov 60 [(-2147483648, 2147483647), (-2147483648, 2147483647)] (ax_deep.map bc_box) = true := by decide +kernel
theorem zL_pl_h31 {X : Int → Int} {LX : Nat} : ck_Ok qL_O X LX 149 pl_h31 := qL_l pl_h31_s (by decide +kernel)
theorem zL_pl_h32 {X : Int → Int} {LX : Nat} : ck_Ok qL_O X LX 149 pl_h32 := qL_l pl_h32_s (by decide +kernel)
theorem zL_pl_h33 {X : Int → Int} {LX : Nat} : ck_Ok qL_O X LX 149 pl_h33 := qL_l pl_h33_s (by decide +kernel)
theorem zL_pl_h34 {X : Int → Int} {LX : Nat} : ck_Ok qL_O X LX 149 pl_h34 := qL_l pl_h34_s (by decide +kernel)
noncomputable def al_deep : List ck_Sum := [pl_h31, pl_h32, pl_h33, pl_h34, q_pl_h35]
theorem al_deep_s {X : Int → Int} {LX : Nat} : ∀ S ∈ al_deep, ck_Ok qL_O X LX 149 S := ck_S1 zL_pl_h31 (ck_S1 zL_pl_h32 (ck_S1 zL_pl_h33 (ck_S1 zL_pl_h34 (ck_S1 q_pl_h35_s ck_S0))))
theorem al_deep_c : al_deep.all (fun S => w_k qL_O 246 1 1 true S && w_r true S) = true := by decide +kernel
theorem al_deep_v : bc_cov 60 [(-2147483648, 2147483647), (-2147483648, 2147483647)] (al_deep.map bc_box) = true := by decide +kernel
theorem zR_p2_s433 {X : Int → Int} {LX : Nat} : ck_Ok qR_O X LX 314 p2_s433 := qR_l p2_s433_s (by decide +kernel)
theorem zR_p2_s434 {X : Int → Int} {LX : Nat} : ck_Ok qR_O X LX 314 p2_s434 := qR_l p2_s434_s (by decide +kernel)
theorem zR_p2_s435 {X : Int → Int} {LX : Nat} : ck_Ok qR_O X LX 314 p2_s435 := qR_l p2_s435_s (by decide +kernel)
theorem zR_p2_s436 {X : Int → Int} {LX : Nat} : ck_Ok qR_O X LX 314 p2_s436 := qR_l p2_s436_s (by decide +kernel)
noncomputable def am_deep : List ck_Sum := [p2_s433, p2_s434, p2_s435, p2_s436, q_p2_s437]
theorem am_deep_s {X : Int → Int} {LX : Nat} : ∀ S ∈ am_deep, ck_Ok qR_O X LX 314 S := ck_S1 zR_p2_s433 (ck_S1 zR_p2_s434 (ck_S1 zR_p2_s435 (ck_S1 zR_p2_s436 (ck_S1 q_p2_s437_s ck_S0))))
theorem am_deep_v : bc_cov 60 [(-2147483648, 2147483647), (-2147483648, 2147483647)] (am_deep.map bc_box) = true := by decide +kernel
noncomputable def ax_post : List ck_Sum := [p2_h36, p2_h37, p2_h38, p2_h39, p2_h40]
theorem ax_post_s {X : Int → Int} {LX : Nat} : ∀ S ∈ ax_post, ck_Ok p2_O X LX 151 S := ck_S1 p2_h36_s (ck_S1 p2_h37_s (ck_S1 p2_h38_s (ck_S1 p2_h39_s (ck_S1 p2_h40_s ck_S0))))
theorem ax_post_c : ax_post.all (w_x p2_O 0 0 1 true) = true := by decide +kernel
theorem ax_post_v : bc_cov 60 [(-2147483648, 2147483647), (-2147483648, 2147483647)] (ax_post.map bc_box) = true := by decide +kernel
noncomputable def al_post : List ck_Sum := [pl_h36, pl_h37, pl_h38, pl_h39, pl_h40]
theorem al_post_s {X : Int → Int} {LX : Nat} : ∀ S ∈ al_post, ck_Ok p2_OL X LX 151 S := ck_S1 pl_h36_s (ck_S1 pl_h37_s (ck_S1 pl_h38_s (ck_S1 pl_h39_s (ck_S1 pl_h40_s ck_S0))))
theorem al_post_c : al_post.all (w_x p2_OL 246 1 1 true) = true := by decide +kernel
theorem al_post_v : bc_cov 60 [(-2147483648, 2147483647), (-2147483648, 2147483647)] (al_post.map bc_box) = true := by decide +kernel
noncomputable def am_post : List ck_Sum := [p2_s547, p2_s548, p2_s549, p2_s550, p2_s557]
theorem am_post_s {X : Int → Int} {LX : Nat} : ∀ S ∈ am_post, ck_Ok p2_O X LX 315 S := ck_S1 p2_s547_s (ck_S1 p2_s548_s (ck_S1 p2_s549_s (ck_S1 p2_s550_s (ck_S1 p2_s557_s ck_S0))))
theorem am_post_c : am_post.all (w_m) = true := by decide +kernel
theorem am_post_v : bc_cov 60 [(-2147483648, 2147483647), (-2147483648, 2147483647)] (am_post.map bc_box) = true := by decide +kernel
noncomputable def ax_watch : List ck_Sum := [p2_h41, p2_h42, p2_h43, p2_h44, p2_h45]
theorem ax_watch_s {X : Int → Int} {LX : Nat} : ∀ S ∈ ax_watch, ck_Ok p2_O X LX 155 S := ck_S1 p2_h41_s (ck_S1 p2_h42_s (ck_S1 p2_h43_s (ck_S1 p2_h44_s (ck_S1 p2_h45_s ck_S0))))
theorem ax_watch_c : ax_watch.all (w_x p2_O 0 0 1 true) = true := by decide +kernel
theorem ax_watch_v : bc_cov 60 [(-2147483648, 2147483647), (-2147483648, 2147483647)] (ax_watch.map bc_box) = true := by decide +kernel
noncomputable def al_watch : List ck_Sum := [pl_h41, pl_h42, pl_h43, pl_h44, pl_h45]
theorem al_watch_s {X : Int → Int} {LX : Nat} : ∀ S ∈ al_watch, ck_Ok p2_OL X LX 155 S := ck_S1 pl_h41_s (ck_S1 pl_h42_s (ck_S1 pl_h43_s (ck_S1 pl_h44_s (ck_S1 pl_h45_s ck_S0))))
theorem al_watch_c : al_watch.all (w_x p2_OL 246 1 1 true) = true := by decide +kernel
theorem al_watch_v : bc_cov 60 [(-2147483648, 2147483647), (-2147483648, 2147483647)] (al_watch.map bc_box) = true := by decide +kernel
noncomputable def am_watch : List ck_Sum := [p2_s567, p2_s568, p2_s572, p2_s573, p2_s574]
theorem am_watch_s {X : Int → Int} {LX : Nat} : ∀ S ∈ am_watch, ck_Ok p2_O X LX 317 S := ck_S1 p2_s567_s (ck_S1 p2_s568_s (ck_S1 p2_s572_s (ck_S1 p2_s573_s (ck_S1 p2_s574_s ck_S0))))
theorem am_watch_c : am_watch.all (w_m) = true := by decide +kernel
theorem am_watch_v : bc_cov 60 [(-2147483648, 2147483647), (-2147483648, 2147483647)] (am_watch.map bc_box) = true := by decide +kernel
noncomputable def ax_open : List ck_Sum := [p2_h46, p2_h47, p2_h48, p2_h49, p2_h50, p2_h51, p2_h52, p2_h53, p2_h54, p2_h55, p2_h56, p2_h57, p2_h58, p2_h59, p2_h60, p2_h61, p2_h62, p2_h63, p2_h64, p2_h65, p2_h66, p2_h67, p2_h68, p2_h69, p2_h70, p2_h71]
theorem ax_open_s {X : Int → Int} {LX : Nat} : ∀ S ∈ ax_open, ck_Ok p2_O X LX 157 S := ck_S1 p2_h46_s (ck_S1 p2_h47_s (ck_S1 p2_h48_s (ck_S1 p2_h49_s (ck_S1 p2_h50_s (ck_S1 p2_h51_s (ck_S1 p2_h52_s (ck_S1 p2_h53_s (ck_S1 p2_h54_s (ck_S1 p2_h55_s (ck_S1 p2_h56_s (ck_S1 p2_h57_s (ck_S1 p2_h58_s (ck_S1 p2_h59_s (ck_S1 p2_h60_s (ck_S1 p2_h61_s (ck_S1 p2_h62_s (ck_S1 p2_h63_s (ck_S1 p2_h64_s (ck_S1 p2_h65_s (ck_S1 p2_h66_s (ck_S1 p2_h67_s (ck_S1 p2_h68_s (ck_S1 p2_h69_s (ck_S1 p2_h70_s (ck_S1 p2_h71_s ck_S0)))))))))))))))))))))))))
theorem ax_open_c : ax_open.all (w_x p2_O 0 0 1 true) = true := by decide +kernel
theorem ax_open_v : bc_cov 60 [(-2147483648, 2147483647)] (ax_open.map bc_box) = true := by decide +kernel
noncomputable def al_open : List ck_Sum := [pl_h46, pl_h47, pl_h48, pl_h49, pl_h50, pl_h51, pl_h52, pl_h53, pl_h54, pl_h55, pl_h56, pl_h57, pl_h58, pl_h59, pl_h60, pl_h61, pl_h62, pl_h63, pl_h64, pl_h65, pl_h66, pl_h67, pl_h68, pl_h69, pl_h70, pl_h71]
theorem al_open_s {X : Int → Int} {LX : Nat} : ∀ S ∈ al_open, ck_Ok p2_OL X LX 157 S := ck_S1 pl_h46_s (ck_S1 pl_h47_s (ck_S1 pl_h48_s (ck_S1 pl_h49_s (ck_S1 pl_h50_s (ck_S1 pl_h51_s (ck_S1 pl_h52_s (ck_S1 pl_h53_s (ck_S1 pl_h54_s (ck_S1 pl_h55_s (ck_S1 pl_h56_s (ck_S1 pl_h57_s (ck_S1 pl_h58_s (ck_S1 pl_h59_s (ck_S1 pl_h60_s (ck_S1 pl_h61_s (ck_S1 pl_h62_s (ck_S1 pl_h63_s (ck_S1 pl_h64_s (ck_S1 pl_h65_s (ck_S1 pl_h66_s (ck_S1 pl_h67_s (ck_S1 pl_h68_s (ck_S1 pl_h69_s (ck_S1 pl_h70_s (ck_S1 pl_h71_s ck_S0)))))))))))))))))))))))))
theorem al_open_c : al_open.all (w_x p2_OL 246 1 1 true) = true := by decide +kernel
theorem al_open_v : bc_cov 60 [(-2147483648, 2147483647)] (al_open.map bc_box) = true := by decide +kernel
noncomputable def am_open : List ck_Sum := [p2_s822, p2_s823, p2_s834, p2_s845, p2_s856, p2_s867, p2_s878, p2_s889, p2_s900, p2_s911, p2_s922, p2_s933, p2_s944, p2_s955, p2_s966, p2_s977, p2_s988, p2_s999, p2_s1010, p2_s1021, p2_s1032, p2_s1043, p2_s1054, p2_s1065, p2_s1076, p2_s1087]
theorem am_open_s {X : Int → Int} {LX : Nat} : ∀ S ∈ am_open, ck_Ok p2_O X LX 318 S := ck_S1 p2_s822_s (ck_S1 p2_s823_s (ck_S1 p2_s834_s (ck_S1 p2_s845_s (ck_S1 p2_s856_s (ck_S1 p2_s867_s (ck_S1 p2_s878_s (ck_S1 p2_s889_s (ck_S1 p2_s900_s (ck_S1 p2_s911_s (ck_S1 p2_s922_s (ck_S1 p2_s933_s (ck_S1 p2_s944_s (ck_S1 p2_s955_s (ck_S1 p2_s966_s (ck_S1 p2_s977_s (ck_S1 p2_s988_s (ck_S1 p2_s999_s (ck_S1 p2_s1010_s (ck_S1 p2_s1021_s (ck_S1 p2_s1032_s (ck_S1 p2_s1043_s (ck_S1 p2_s1054_s (ck_S1 p2_s1065_s (ck_S1 p2_s1076_s (ck_S1 p2_s1087_s ck_S0)))))))))))))))))))))))))
theorem am_open_c : am_open.all (w_m) = true := by decide +kernel
theorem am_open_v : bc_cov 60 [(-2147483648, 2147483647)] (am_open.map bc_box) = true := by decide +kernel
noncomputable def ax_years : List ck_Sum := [p2_h72, p2_h73, p2_h74]
theorem ax_years_s {X : Int → Int} {LX : Nat} : ∀ S ∈ ax_years, ck_Ok p2_O X LX 160 S := ck_S1 p2_h72_s (ck_S1 p2_h73_s (ck_S1 p2_h74_s ck_S0))
theorem ax_years_c : ax_years.all (w_x p2_O 0 0 1 true) = true := by decide +kernel
theorem ax_years_v : bc_cov 60 [(-2147483648, 2147483647)] (ax_years.map bc_box) = true := by decide +kernel
noncomputable def al_years : List ck_Sum := [pl_h72, pl_h73, pl_h74]
theorem al_years_s {X : Int → Int} {LX : Nat} : ∀ S ∈ al_years, ck_Ok p2_OL X LX 160 S := ck_S1 pl_h72_s (ck_S1 pl_h73_s (ck_S1 pl_h74_s ck_S0))
theorem al_years_c : al_years.all (w_x p2_OL 246 1 1 true) = true := by decide +kernel
theorem al_years_v : bc_cov 60 [(-2147483648, 2147483647)] (al_years.map bc_box) = true := by decide +kernel
noncomputable def am_years : List ck_Sum := [p2_s1151, p2_s1153, p2_s1206, p2_s1208, p2_s1210, p2_s1212, p2_s1214, p2_s1216, p2_s1218, p2_s1220, p2_s1222, p2_s1224, p2_s1226, p2_s1228, p2_s1230, p2_s1232, p2_s1234, p2_s1236, p2_s1238, p2_s1240, p2_s1242, p2_s1244, p2_s1246, p2_s1248, p2_s1250, p2_s1252, p2_s1254, p2_s1256, p2_s1258, p2_s1260, p2_s1262, p2_s1264, p2_s1266, p2_s1268, p2_s1270, p2_s1272, p2_s1274, p2_s1276, p2_s1278, p2_s1280, p2_s1282, p2_s1284, p2_s1286, p2_s1288, p2_s1290, p2_s1292, p2_s1294, p2_s1296, p2_s1298, p2_s1300, p2_s1302, p2_s1304]
theorem am_years_s {X : Int → Int} {LX : Nat} : ∀ S ∈ am_years, ck_Ok p2_O X LX 320 S := ck_S1 p2_s1151_s (ck_S1 p2_s1153_s (ck_S1 p2_s1206_s (ck_S1 p2_s1208_s (ck_S1 p2_s1210_s (ck_S1 p2_s1212_s (ck_S1 p2_s1214_s (ck_S1 p2_s1216_s (ck_S1 p2_s1218_s (ck_S1 p2_s1220_s (ck_S1 p2_s1222_s (ck_S1 p2_s1224_s (ck_S1 p2_s1226_s (ck_S1 p2_s1228_s (ck_S1 p2_s1230_s (ck_S1 p2_s1232_s (ck_S1 p2_s1234_s (ck_S1 p2_s1236_s (ck_S1 p2_s1238_s (ck_S1 p2_s1240_s (ck_S1 p2_s1242_s (ck_S1 p2_s1244_s (ck_S1 p2_s1246_s (ck_S1 p2_s1248_s (ck_S1 p2_s1250_s (ck_S1 p2_s1252_s (ck_S1 p2_s1254_s (ck_S1 p2_s1256_s (ck_S1 p2_s1258_s (ck_S1 p2_s1260_s (ck_S1 p2_s1262_s (ck_S1 p2_s1264_s (ck_S1 p2_s1266_s (ck_S1 p2_s1268_s (ck_S1 p2_s1270_s (ck_S1 p2_s1272_s (ck_S1 p2_s1274_s (ck_S1 p2_s1276_s (ck_S1 p2_s1278_s (ck_S1 p2_s1280_s (ck_S1 p2_s1282_s (ck_S1 p2_s1284_s (ck_S1 p2_s1286_s (ck_S1 p2_s1288_s (ck_S1 p2_s1290_s (ck_S1 p2_s1292_s (ck_S1 p2_s1294_s (ck_S1 p2_s1296_s (ck_S1 p2_s1298_s (ck_S1 p2_s1300_s (ck_S1 p2_s1302_s (ck_S1 p2_s1304_s ck_S0)))))))))))))))))))))))))))))))))))))))))))))))))))
theorem am_years_c : am_years.all (w_m) = true := by decide +kernel
theorem am_years_v : bc_cov 60 [(-2147483648, 2147483647)] (am_years.map bc_box) = true := by decide +kernel
theorem z0_p2_h124 {X : Int → Int} {LX : Nat} : ck_Ok q0_O X LX 166 p2_h124 := q0_l p2_h124_s (by decide +kernel)
theorem z0_p2_h125 {X : Int → Int} {LX : Nat} : ck_Ok q0_O X LX 166 p2_h125 := q0_l p2_h125_s (by decide +kernel)
theorem z0_p2_h126 {X : Int → Int} {LX : Nat} : ck_Ok q0_O X LX 166 p2_h126 := q0_l p2_h126_s (by decide +kernel)
theorem z0_p2_h127 {X : Int → Int} {LX : Nat} : ck_Ok q0_O X LX 166 p2_h127 := q0_l p2_h127_s (by decide +kernel)
theorem z0_p2_h128 {X : Int → Int} {LX : Nat} : ck_Ok q0_O X LX 166 p2_h128 := q0_l p2_h128_s (by decide +kernel)
theorem z0_p2_h129 {X : Int → Int} {LX : Nat} : ck_Ok q0_O X LX 166 p2_h129 := q0_l p2_h129_s (by decide +kernel)
theorem z0_p2_h130 {X : Int → Int} {LX : Nat} : ck_Ok q0_O X LX 166 p2_h130 := q0_l p2_h130_s (by decide +kernel)
theorem z0_p2_h131 {X : Int → Int} {LX : Nat} : ck_Ok q0_O X LX 166 p2_h131 := q0_l p2_h131_s (by decide +kernel)
theorem z0_p2_h132 {X : Int → Int} {LX : Nat} : ck_Ok q0_O X LX 166 p2_h132 := q0_l p2_h132_s (by decide +kernel)
noncomputable def ax_throwsFor : List ck_Sum := [p2_h124, p2_h125, p2_h126, p2_h127, p2_h128, p2_h129, p2_h130, p2_h131, p2_h132]
theorem ax_throwsFor_s {X : Int → Int} {LX : Nat} : ∀ S ∈ ax_throwsFor, ck_Ok q0_O X LX 166 S := ck_S1 z0_p2_h124 (ck_S1 z0_p2_h125 (ck_S1 z0_p2_h126 (ck_S1 z0_p2_h127 (ck_S1 z0_p2_h128 (ck_S1 z0_p2_h129 (ck_S1 z0_p2_h130 (ck_S1 z0_p2_h131 (ck_S1 z0_p2_h132 ck_S0))))))))
theorem ax_throwsFor_c : ax_throwsFor.all (fun S => w_k q0_O 0 0 1 true S && w_r true S) = true := by decide +kernel
theorem ax_throwsFor_v : bc_cov 60 [(-2147483648, 2147483647), (-2147483648, 2147483647), (-2147483648, 2147483647), (-2147483648, 2147483647)] (ax_throwsFor.map bc_box) = true := by decide +kernel
theorem zL_pl_h124 {X : Int → Int} {LX : Nat} : ck_Ok qL_O X LX 166 pl_h124 := qL_l pl_h124_s (by decide +kernel)
theorem zL_pl_h125 {X : Int → Int} {LX : Nat} : ck_Ok qL_O X LX 166 pl_h125 := qL_l pl_h125_s (by decide +kernel)
theorem zL_pl_h126 {X : Int → Int} {LX : Nat} : ck_Ok qL_O X LX 166 pl_h126 := qL_l pl_h126_s (by decide +kernel)
theorem zL_pl_h127 {X : Int → Int} {LX : Nat} : ck_Ok qL_O X LX 166 pl_h127 := qL_l pl_h127_s (by decide +kernel)
theorem zL_pl_h128 {X : Int → Int} {LX : Nat} : ck_Ok qL_O X LX 166 pl_h128 := qL_l pl_h128_s (by decide +kernel)
theorem zL_pl_h129 {X : Int → Int} {LX : Nat} : ck_Ok qL_O X LX 166 pl_h129 := qL_l pl_h129_s (by decide +kernel)
theorem zL_pl_h130 {X : Int → Int} {LX : Nat} : ck_Ok qL_O X LX 166 pl_h130 := qL_l pl_h130_s (by decide +kernel)
theorem zL_pl_h131 {X : Int → Int} {LX : Nat} : ck_Ok qL_O X LX 166 pl_h131 := qL_l pl_h131_s (by decide +kernel)
noncomputable def al_throwsFor : List ck_Sum := [pl_h124, pl_h125, pl_h126, pl_h127, pl_h128, pl_h129, pl_h130, pl_h131, q_pl_h132]
theorem al_throwsFor_s {X : Int → Int} {LX : Nat} : ∀ S ∈ al_throwsFor, ck_Ok qL_O X LX 166 S := ck_S1 zL_pl_h124 (ck_S1 zL_pl_h125 (ck_S1 zL_pl_h126 (ck_S1 zL_pl_h127 (ck_S1 zL_pl_h128 (ck_S1 zL_pl_h129 (ck_S1 zL_pl_h130 (ck_S1 zL_pl_h131 (ck_S1 q_pl_h132_s ck_S0))))))))
theorem al_throwsFor_c : al_throwsFor.all (fun S => w_k qL_O 246 1 1 true S && w_r true S) = true := by decide +kernel
theorem al_throwsFor_v : bc_cov 60 [(-2147483648, 2147483647), (-2147483648, 2147483647), (-2147483648, 2147483647), (-2147483648, 2147483647)] (al_throwsFor.map bc_box) = true := by decide +kernel
theorem zR_p2_s1315 {X : Int → Int} {LX : Nat} : ck_Ok qR_O X LX 324 p2_s1315 := qR_l p2_s1315_s (by decide +kernel)
theorem zR_p2_s1316 {X : Int → Int} {LX : Nat} : ck_Ok qR_O X LX 324 p2_s1316 := qR_l p2_s1316_s (by decide +kernel)
theorem zR_p2_s1317 {X : Int → Int} {LX : Nat} : ck_Ok qR_O X LX 324 p2_s1317 := qR_l p2_s1317_s (by decide +kernel)
theorem zR_p2_s1318 {X : Int → Int} {LX : Nat} : ck_Ok qR_O X LX 324 p2_s1318 := qR_l p2_s1318_s (by decide +kernel)
theorem zR_p2_s1319 {X : Int → Int} {LX : Nat} : ck_Ok qR_O X LX 324 p2_s1319 := qR_l p2_s1319_s (by decide +kernel)
theorem zR_p2_s1320 {X : Int → Int} {LX : Nat} : ck_Ok qR_O X LX 324 p2_s1320 := qR_l p2_s1320_s (by decide +kernel)
theorem zR_p2_s1322 {X : Int → Int} {LX : Nat} : ck_Ok qR_O X LX 324 p2_s1322 := qR_l p2_s1322_s (by decide +kernel)
theorem zR_p2_s1324 {X : Int → Int} {LX : Nat} : ck_Ok qR_O X LX 324 p2_s1324 := qR_l p2_s1324_s (by decide +kernel)
noncomputable def am_throwsFor : List ck_Sum := [p2_s1315, p2_s1316, p2_s1317, p2_s1318, p2_s1319, p2_s1320, p2_s1322, p2_s1324, q_p2_s1327]
theorem am_throwsFor_s {X : Int → Int} {LX : Nat} : ∀ S ∈ am_throwsFor, ck_Ok qR_O X LX 324 S := ck_S1 zR_p2_s1315 (ck_S1 zR_p2_s1316 (ck_S1 zR_p2_s1317 (ck_S1 zR_p2_s1318 (ck_S1 zR_p2_s1319 (ck_S1 zR_p2_s1320 (ck_S1 zR_p2_s1322 (ck_S1 zR_p2_s1324 (ck_S1 q_p2_s1327_s ck_S0))))))))
theorem am_throwsFor_c : am_throwsFor.all (fun S => w_kR S && w_r true S) = true := by decide +kernel
theorem am_throwsFor_v : bc_cov 60 [(-2147483648, 2147483647), (-2147483648, 2147483647), (-2147483648, 2147483647), (-2147483648, 2147483647)] (am_throwsFor.map bc_box) = true := by decide +kernel
theorem z0_p2_h133 {X : Int → Int} {LX : Nat} : ck_Ok q0_O X LX 168 p2_h133 := q0_l p2_h133_s (by decide +kernel)
theorem z0_p2_h134 {X : Int → Int} {LX : Nat} : ck_Ok q0_O X LX 168 p2_h134 := q0_l p2_h134_s (by decide +kernel)
theorem z0_p2_h135 {X : Int → Int} {LX : Nat} : ck_Ok q0_O X LX 168 p2_h135 := q0_l p2_h135_s (by decide +kernel)
theorem z0_p2_h136 {X : Int → Int} {LX : Nat} : ck_Ok q0_O X LX 168 p2_h136 := q0_l p2_h136_s (by decide +kernel)
theorem z0_p2_h137 {X : Int → Int} {LX : Nat} : ck_Ok q0_O X LX 168 p2_h137 := q0_l p2_h137_s (by decide +kernel)
noncomputable def ax_latest : List ck_Sum := [p2_h133, p2_h134, p2_h135, p2_h136, p2_h137]
theorem ax_latest_s {X : Int → Int} {LX : Nat} : ∀ S ∈ ax_latest, ck_Ok q0_O X LX 168 S := ck_S1 z0_p2_h133 (ck_S1 z0_p2_h134 (ck_S1 z0_p2_h135 (ck_S1 z0_p2_h136 (ck_S1 z0_p2_h137 ck_S0))))
theorem ax_latest_c : ax_latest.all (fun S => w_k q0_O 0 0 1 true S && w_r true S) = true := by decide +kernel
theorem ax_latest_v : bc_cov 60 [(-2147483648, 2147483647), (-2147483648, 2147483647)] (ax_latest.map bc_box) = true := by decide +kernel
theorem zL_pl_h133 {X : Int → Int} {LX : Nat} : ck_Ok qL_O X LX 168 pl_h133 := qL_l pl_h133_s (by decide +kernel)
theorem zL_pl_h134 {X : Int → Int} {LX : Nat} : ck_Ok qL_O X LX 168 pl_h134 := qL_l pl_h134_s (by decide +kernel)
theorem zL_pl_h135 {X : Int → Int} {LX : Nat} : ck_Ok qL_O X LX 168 pl_h135 := qL_l pl_h135_s (by decide +kernel)
theorem zL_pl_h136 {X : Int → Int} {LX : Nat} : ck_Ok qL_O X LX 168 pl_h136 := qL_l pl_h136_s (by decide +kernel)
noncomputable def al_latest : List ck_Sum := [pl_h133, pl_h134, pl_h135, pl_h136, q_pl_h137]
theorem al_latest_s {X : Int → Int} {LX : Nat} : ∀ S ∈ al_latest, ck_Ok qL_O X LX 168 S := ck_S1 zL_pl_h133 (ck_S1 zL_pl_h134 (ck_S1 zL_pl_h135 (ck_S1 zL_pl_h136 (ck_S1 q_pl_h137_s ck_S0))))
theorem al_latest_c : al_latest.all (fun S => w_k qL_O 246 1 1 true S && w_r true S) = true := by decide +kernel
theorem al_latest_v : bc_cov 60 [(-2147483648, 2147483647), (-2147483648, 2147483647)] (al_latest.map bc_box) = true := by decide +kernel
theorem zR_p2_s1334 {X : Int → Int} {LX : Nat} : ck_Ok qR_O X LX 326 p2_s1334 := qR_l p2_s1334_s (by decide +kernel)
theorem zR_p2_s1335 {X : Int → Int} {LX : Nat} : ck_Ok qR_O X LX 326 p2_s1335 := qR_l p2_s1335_s (by decide +kernel)
theorem zR_p2_s1336 {X : Int → Int} {LX : Nat} : ck_Ok qR_O X LX 326 p2_s1336 := qR_l p2_s1336_s (by decide +kernel)
theorem zR_p2_s1337 {X : Int → Int} {LX : Nat} : ck_Ok qR_O X LX 326 p2_s1337 := qR_l p2_s1337_s (by decide +kernel)
noncomputable def am_latest : List ck_Sum := [p2_s1334, p2_s1335, p2_s1336, p2_s1337, q_p2_s1338]
theorem am_latest_s {X : Int → Int} {LX : Nat} : ∀ S ∈ am_latest, ck_Ok qR_O X LX 326 S := ck_S1 zR_p2_s1334 (ck_S1 zR_p2_s1335 (ck_S1 zR_p2_s1336 (ck_S1 zR_p2_s1337 (ck_S1 q_p2_s1338_s ck_S0))))
theorem am_latest_c : am_latest.all (fun S => w_kR S && w_r true S) = true := by decide +kernel
theorem am_latest_v : bc_cov 60 [(-2147483648, 2147483647), (-2147483648, 2147483647)] (am_latest.map bc_box) = true := by decide +kernel
theorem z0_p2_h138 {X : Int → Int} {LX : Nat} : ck_Ok q0_O X LX 171 p2_h138 := q0_l p2_h138_s (by decide +kernel)
theorem z0_p2_h139 {X : Int → Int} {LX : Nat} : ck_Ok q0_O X LX 171 p2_h139 := q0_l p2_h139_s (by decide +kernel)
theorem z0_p2_h140 {X : Int → Int} {LX : Nat} : ck_Ok q0_O X LX 171 p2_h140 := q0_l p2_h140_s (by decide +kernel)
theorem z0_p2_h141 {X : Int → Int} {LX : Nat} : ck_Ok q0_O X LX 171 p2_h141 := q0_l p2_h141_s (by decide +kernel)
theorem z0_p2_h142 {X : Int → Int} {LX : Nat} : ck_Ok q0_O X LX 171 p2_h142 := q0_l p2_h142_s (by decide +kernel)
noncomputable def ax_hut : List ck_Sum := [p2_h138, p2_h139, p2_h140, p2_h141, p2_h142]
theorem ax_hut_s {X : Int → Int} {LX : Nat} : ∀ S ∈ ax_hut, ck_Ok q0_O X LX 171 S := ck_S1 z0_p2_h138 (ck_S1 z0_p2_h139 (ck_S1 z0_p2_h140 (ck_S1 z0_p2_h141 (ck_S1 z0_p2_h142 ck_S0))))
theorem ax_hut_c : ax_hut.all (fun S => w_k q0_O 0 0 1 true S && w_r true S) = true := by decide +kernel
theorem ax_hut_v : bc_cov 60 [(-2147483648, 2147483647), (-2147483648, 2147483647)] (ax_hut.map bc_box) = true := by decide +kernel
theorem zL_pl_h138 {X : Int → Int} {LX : Nat} : ck_Ok qL_O X LX 171 pl_h138 := qL_l pl_h138_s (by decide +kernel)
theorem zL_pl_h139 {X : Int → Int} {LX : Nat} : ck_Ok qL_O X LX 171 pl_h139 := qL_l pl_h139_s (by decide +kernel)
theorem zL_pl_h140 {X : Int → Int} {LX : Nat} : ck_Ok qL_O X LX 171 pl_h140 := qL_l pl_h140_s (by decide +kernel)
theorem zL_pl_h141 {X : Int → Int} {LX : Nat} : ck_Ok qL_O X LX 171 pl_h141 := qL_l pl_h141_s (by decide +kernel)
noncomputable def al_hut : List ck_Sum := [pl_h138, pl_h139, pl_h140, pl_h141, q_pl_h142]
theorem al_hut_s {X : Int → Int} {LX : Nat} : ∀ S ∈ al_hut, ck_Ok qL_O X LX 171 S := ck_S1 zL_pl_h138 (ck_S1 zL_pl_h139 (ck_S1 zL_pl_h140 (ck_S1 zL_pl_h141 (ck_S1 q_pl_h142_s ck_S0))))
theorem al_hut_c : al_hut.all (fun S => w_k qL_O 246 1 1 true S && w_r true S) = true := by decide +kernel
theorem al_hut_v : bc_cov 60 [(-2147483648, 2147483647), (-2147483648, 2147483647)] (al_hut.map bc_box) = true := by decide +kernel
theorem zR_p2_s1344 {X : Int → Int} {LX : Nat} : ck_Ok qR_O X LX 327 p2_s1344 := qR_l p2_s1344_s (by decide +kernel)
theorem zR_p2_s1345 {X : Int → Int} {LX : Nat} : ck_Ok qR_O X LX 327 p2_s1345 := qR_l p2_s1345_s (by decide +kernel)
theorem zR_p2_s1347 {X : Int → Int} {LX : Nat} : ck_Ok qR_O X LX 327 p2_s1347 := qR_l p2_s1347_s (by decide +kernel)
theorem zR_p2_s1349 {X : Int → Int} {LX : Nat} : ck_Ok qR_O X LX 327 p2_s1349 := qR_l p2_s1349_s (by decide +kernel)
noncomputable def am_hut : List ck_Sum := [p2_s1344, p2_s1345, p2_s1347, p2_s1349, q_p2_s1351]
theorem am_hut_s {X : Int → Int} {LX : Nat} : ∀ S ∈ am_hut, ck_Ok qR_O X LX 327 S := ck_S1 zR_p2_s1344 (ck_S1 zR_p2_s1345 (ck_S1 zR_p2_s1347 (ck_S1 zR_p2_s1349 (ck_S1 q_p2_s1351_s ck_S0))))
theorem am_hut_c : am_hut.all (fun S => w_kR S && w_r true S) = true := by decide +kernel
theorem am_hut_v : bc_cov 60 [(-2147483648, 2147483647), (-2147483648, 2147483647)] (am_hut.map bc_box) = true := by decide +kernel
theorem z0_p2_h143 {X : Int → Int} {LX : Nat} : ck_Ok q0_O X LX 173 p2_h143 := q0_l p2_h143_s (by decide +kernel)
theorem z0_p2_h144 {X : Int → Int} {LX : Nat} : ck_Ok q0_O X LX 173 p2_h144 := q0_l p2_h144_s (by decide +kernel)
theorem z0_p2_h145 {X : Int → Int} {LX : Nat} : ck_Ok q0_O X LX 173 p2_h145 := q0_l p2_h145_s (by decide +kernel)
theorem z0_p2_h146 {X : Int → Int} {LX : Nat} : ck_Ok q0_O X LX 173 p2_h146 := q0_l p2_h146_s (by decide +kernel)
theorem z0_p2_h147 {X : Int → Int} {LX : Nat} : ck_Ok q0_O X LX 173 p2_h147 := q0_l p2_h147_s (by decide +kernel)
noncomputable def ax_without : List ck_Sum := [p2_h143, p2_h144, p2_h145, p2_h146, p2_h147]
theorem ax_without_s {X : Int → Int} {LX : Nat} : ∀ S ∈ ax_without, ck_Ok q0_O X LX 173 S := ck_S1 z0_p2_h143 (ck_S1 z0_p2_h144 (ck_S1 z0_p2_h145 (ck_S1 z0_p2_h146 (ck_S1 z0_p2_h147 ck_S0))))
theorem ax_without_c : ax_without.all (fun S => w_k q0_O 0 0 1 true S && w_r true S) = true := by decide +kernel
theorem ax_without_v : bc_cov 60 [(-2147483648, 2147483647), (-2147483648, 2147483647)] (ax_without.map bc_box) = true := by decide +kernel
theorem zL_pl_h143 {X : Int → Int} {LX : Nat} : ck_Ok qL_O X LX 173 pl_h143 := qL_l pl_h143_s (by decide +kernel)
theorem zL_pl_h144 {X : Int → Int} {LX : Nat} : ck_Ok qL_O X LX 173 pl_h144 := qL_l pl_h144_s (by decide +kernel)
theorem zL_pl_h145 {X : Int → Int} {LX : Nat} : ck_Ok qL_O X LX 173 pl_h145 := qL_l pl_h145_s (by decide +kernel)
theorem zL_pl_h146 {X : Int → Int} {LX : Nat} : ck_Ok qL_O X LX 173 pl_h146 := qL_l pl_h146_s (by decide +kernel)
noncomputable def al_without : List ck_Sum := [pl_h143, pl_h144, pl_h145, pl_h146, q_pl_h147]
theorem al_without_s {X : Int → Int} {LX : Nat} : ∀ S ∈ al_without, ck_Ok qL_O X LX 173 S := ck_S1 zL_pl_h143 (ck_S1 zL_pl_h144 (ck_S1 zL_pl_h145 (ck_S1 zL_pl_h146 (ck_S1 q_pl_h147_s ck_S0))))
theorem al_without_c : al_without.all (fun S => w_k qL_O 246 1 1 true S && w_r true S) = true := by decide +kernel
theorem al_without_v : bc_cov 60 [(-2147483648, 2147483647), (-2147483648, 2147483647)] (al_without.map bc_box) = true := by decide +kernel
theorem zR_p2_s1358 {X : Int → Int} {LX : Nat} : ck_Ok qR_O X LX 328 p2_s1358 := qR_l p2_s1358_s (by decide +kernel)
theorem zR_p2_s1359 {X : Int → Int} {LX : Nat} : ck_Ok qR_O X LX 328 p2_s1359 := qR_l p2_s1359_s (by decide +kernel)
theorem zR_p2_s1360 {X : Int → Int} {LX : Nat} : ck_Ok qR_O X LX 328 p2_s1360 := qR_l p2_s1360_s (by decide +kernel)
theorem zR_p2_s1361 {X : Int → Int} {LX : Nat} : ck_Ok qR_O X LX 328 p2_s1361 := qR_l p2_s1361_s (by decide +kernel)
noncomputable def am_without : List ck_Sum := [p2_s1358, p2_s1359, p2_s1360, p2_s1361, q_p2_s1362]
theorem am_without_s {X : Int → Int} {LX : Nat} : ∀ S ∈ am_without, ck_Ok qR_O X LX 328 S := ck_S1 zR_p2_s1358 (ck_S1 zR_p2_s1359 (ck_S1 zR_p2_s1360 (ck_S1 zR_p2_s1361 (ck_S1 q_p2_s1362_s ck_S0))))
theorem am_without_c : am_without.all (fun S => w_kR S && w_r true S) = true := by decide +kernel
theorem am_without_v : bc_cov 60 [(-2147483648, 2147483647), (-2147483648, 2147483647)] (am_without.map bc_box) = true := by decide +kernel
theorem z0_p2_h148 {X : Int → Int} {LX : Nat} : ck_Ok q0_O X LX 176 p2_h148 := q0_l p2_h148_s (by decide +kernel)
theorem z0_p2_h149 {X : Int → Int} {LX : Nat} : ck_Ok q0_O X LX 176 p2_h149 := q0_l p2_h149_s (by decide +kernel)
theorem z0_p2_h150 {X : Int → Int} {LX : Nat} : ck_Ok q0_O X LX 176 p2_h150 := q0_l p2_h150_s (by decide +kernel)
noncomputable def ax_moved : List ck_Sum := [p2_h148, p2_h149, p2_h150]
theorem ax_moved_s {X : Int → Int} {LX : Nat} : ∀ S ∈ ax_moved, ck_Ok q0_O X LX 176 S := ck_S1 z0_p2_h148 (ck_S1 z0_p2_h149 (ck_S1 z0_p2_h150 ck_S0))
theorem ax_moved_c : ax_moved.all (fun S => w_k q0_O 0 0 1 true S && w_r true S) = true := by decide +kernel
theorem ax_moved_v : bc_cov 60 [(-2147483648, 2147483647)] (ax_moved.map bc_box) = true := by decide +kernel
theorem zL_pl_h148 {X : Int → Int} {LX : Nat} : ck_Ok qL_O X LX 176 pl_h148 := qL_l pl_h148_s (by decide +kernel)
theorem zL_pl_h149 {X : Int → Int} {LX : Nat} : ck_Ok qL_O X LX 176 pl_h149 := qL_l pl_h149_s (by decide +kernel)
noncomputable def al_moved : List ck_Sum := [pl_h148, pl_h149, q_pl_h150]
theorem al_moved_s {X : Int → Int} {LX : Nat} : ∀ S ∈ al_moved, ck_Ok qL_O X LX 176 S := ck_S1 zL_pl_h148 (ck_S1 zL_pl_h149 (ck_S1 q_pl_h150_s ck_S0))
theorem al_moved_c : al_moved.all (fun S => w_k qL_O 246 1 1 true S && w_r true S) = true := by decide +kernel
theorem al_moved_v : bc_cov 60 [(-2147483648, 2147483647)] (al_moved.map bc_box) = true := by decide +kernel
theorem zR_p2_s1366 {X : Int → Int} {LX : Nat} : ck_Ok qR_O X LX 329 p2_s1366 := qR_l p2_s1366_s (by decide +kernel)
theorem zR_p2_s1367 {X : Int → Int} {LX : Nat} : ck_Ok qR_O X LX 329 p2_s1367 := qR_l p2_s1367_s (by decide +kernel)
noncomputable def am_moved : List ck_Sum := [p2_s1366, p2_s1367, q_p2_s1368]
theorem am_moved_s {X : Int → Int} {LX : Nat} : ∀ S ∈ am_moved, ck_Ok qR_O X LX 329 S := ck_S1 zR_p2_s1366 (ck_S1 zR_p2_s1367 (ck_S1 q_p2_s1368_s ck_S0))
theorem am_moved_c : am_moved.all (fun S => w_kR S && w_r true S) = true := by decide +kernel
theorem am_moved_v : bc_cov 60 [(-2147483648, 2147483647)] (am_moved.map bc_box) = true := by decide +kernel
noncomputable def ax_lost : List ck_Sum := [q_p2_s1369]
theorem ax_lost_s {X : Int → Int} {LX : Nat} : ∀ S ∈ ax_lost, ck_Ok q0_O X LX 23 S := ck_S1 q_p2_s1369_s ck_S0
theorem ax_lost_c : ax_lost.all (fun S => w_k q0_O 0 0 1 false S && w_r true S) = true := by decide +kernel
theorem ax_lost_v : bc_cov 60 [] (ax_lost.map bc_box) = true := by decide +kernel
noncomputable def al_lost : List ck_Sum := [q_pl_s713]
theorem al_lost_s {X : Int → Int} {LX : Nat} : ∀ S ∈ al_lost, ck_Ok qL_O X LX 23 S := ck_S1 q_pl_s713_s ck_S0
theorem al_lost_c : al_lost.all (fun S => w_k qL_O 246 1 1 false S && w_r true S) = true := by decide +kernel
theorem al_lost_v : bc_cov 60 [] (al_lost.map bc_box) = true := by decide +kernel
noncomputable def am_lost : List ck_Sum := [q_p2_s1370]
theorem am_lost_s {X : Int → Int} {LX : Nat} : ∀ S ∈ am_lost, ck_Ok qR_O X LX 330 S := ck_S1 q_p2_s1370_s ck_S0
theorem am_lost_c : am_lost.all (fun S => w_kR S && w_r true S) = true := by decide +kernel
theorem am_lost_v : bc_cov 60 [] (am_lost.map bc_box) = true := by decide +kernel
noncomputable def ax_market : List ck_Sum := [q_p2_s1372]
theorem ax_market_s {X : Int → Int} {LX : Nat} : ∀ S ∈ ax_market, ck_Ok q0_O X LX 46 S := ck_S1 q_p2_s1372_s ck_S0
theorem ax_market_c : ax_market.all (fun S => w_k q0_O 0 0 1 false S && w_r true S) = true := by decide +kernel
theorem ax_market_v : bc_cov 60 [(0, 1)] (ax_market.map bc_box) = true := by decide +kernel
noncomputable def al_market : List ck_Sum := [q_pl_s715]
theorem al_market_s {X : Int → Int} {LX : Nat} : ∀ S ∈ al_market, ck_Ok qL_O X LX 46 S := ck_S1 q_pl_s715_s ck_S0
theorem al_market_c : al_market.all (fun S => w_k qL_O 246 1 1 false S && w_r true S) = true := by decide +kernel
theorem al_market_v : bc_cov 60 [(0, 1)] (al_market.map bc_box) = true := by decide +kernel
noncomputable def am_market : List ck_Sum := [q_p2_s1375]
theorem am_market_s {X : Int → Int} {LX : Nat} : ∀ S ∈ am_market, ck_Ok qR_O X LX 331 S := ck_S1 q_p2_s1375_s ck_S0
theorem am_market_c : am_market.all (fun S => w_kR S && w_r true S) = true := by decide +kernel
theorem am_market_v : bc_cov 60 [(0, 1)] (am_market.map bc_box) = true := by decide +kernel
theorem z0_p2_h151 {X : Int → Int} {LX : Nat} : ck_Ok q0_O X LX 178 p2_h151 := q0_l p2_h151_s (by decide +kernel)
theorem z0_p2_h152 {X : Int → Int} {LX : Nat} : ck_Ok q0_O X LX 178 p2_h152 := q0_l p2_h152_s (by decide +kernel)
theorem z0_p2_h153 {X : Int → Int} {LX : Nat} : ck_Ok q0_O X LX 178 p2_h153 := q0_l p2_h153_s (by decide +kernel)
noncomputable def ax_passes : List ck_Sum := [p2_h151, p2_h152, p2_h153]
theorem ax_passes_s {X : Int → Int} {LX : Nat} : ∀ S ∈ ax_passes, ck_Ok q0_O X LX 178 S := ck_S1 z0_p2_h151 (ck_S1 z0_p2_h152 (ck_S1 z0_p2_h153 ck_S0))
theorem ax_passes_c : ax_passes.all (fun S => w_k q0_O 0 0 1 true S && w_r true S) = true := by decide +kernel
theorem ax_passes_v : bc_cov 60 [(-2147483648, 2147483647)] (ax_passes.map bc_box) = true := by decide +kernel
theorem zL_pl_h151 {X : Int → Int} {LX : Nat} : ck_Ok qL_O X LX 178 pl_h151 := qL_l pl_h151_s (by decide +kernel)
theorem zL_pl_h152 {X : Int → Int} {LX : Nat} : ck_Ok qL_O X LX 178 pl_h152 := qL_l pl_h152_s (by decide +kernel)
noncomputable def al_passes : List ck_Sum := [pl_h151, pl_h152, q_pl_h153]
theorem al_passes_s {X : Int → Int} {LX : Nat} : ∀ S ∈ al_passes, ck_Ok qL_O X LX 178 S := ck_S1 zL_pl_h151 (ck_S1 zL_pl_h152 (ck_S1 q_pl_h153_s ck_S0))
theorem al_passes_c : al_passes.all (fun S => w_k qL_O 246 1 1 true S && w_r true S) = true := by decide +kernel
theorem al_passes_v : bc_cov 60 [(-2147483648, 2147483647)] (al_passes.map bc_box) = true := by decide +kernel
theorem zR_p2_s1392 {X : Int → Int} {LX : Nat} : ck_Ok qR_O X LX 334 p2_s1392 := qR_l p2_s1392_s (by decide +kernel)
theorem zR_p2_s1393 {X : Int → Int} {LX : Nat} : ck_Ok qR_O X LX 334 p2_s1393 := qR_l p2_s1393_s (by decide +kernel)
noncomputable def am_passes : List ck_Sum := [p2_s1392, p2_s1393, q_p2_s1398]
theorem am_passes_s {X : Int → Int} {LX : Nat} : ∀ S ∈ am_passes, ck_Ok qR_O X LX 334 S := ck_S1 zR_p2_s1392 (ck_S1 zR_p2_s1393 (ck_S1 q_p2_s1398_s ck_S0))
theorem am_passes_c : am_passes.all (fun S => w_kR S && w_r true S) = true := by decide +kernel
theorem am_passes_v : bc_cov 60 [(-2147483648, 2147483647)] (am_passes.map bc_box) = true := by decide +kernel
theorem z0_p2_h154 {X : Int → Int} {LX : Nat} : ck_Ok q0_O X LX 185 p2_h154 := q0_l p2_h154_s (by decide +kernel)
theorem z0_p2_h155 {X : Int → Int} {LX : Nat} : ck_Ok q0_O X LX 185 p2_h155 := q0_l p2_h155_s (by decide +kernel)
theorem z0_p2_h156 {X : Int → Int} {LX : Nat} : ck_Ok q0_O X LX 185 p2_h156 := q0_l p2_h156_s (by decide +kernel)
theorem z0_p2_h157 {X : Int → Int} {LX : Nat} : ck_Ok q0_O X LX 185 p2_h157 := q0_l p2_h157_s (by decide +kernel)
theorem z0_p2_h158 {X : Int → Int} {LX : Nat} : ck_Ok q0_O X LX 185 p2_h158 := q0_l p2_h158_s (by decide +kernel)
theorem z0_p2_h159 {X : Int → Int} {LX : Nat} : ck_Ok q0_O X LX 185 p2_h159 := q0_l p2_h159_s (by decide +kernel)
theorem z0_p2_h160 {X : Int → Int} {LX : Nat} : ck_Ok q0_O X LX 185 p2_h160 := q0_l p2_h160_s (by decide +kernel)
noncomputable def ax_writers : List ck_Sum := [p2_h154, p2_h155, p2_h156, p2_h157, p2_h158, p2_h159, p2_h160]
theorem ax_writers_s {X : Int → Int} {LX : Nat} : ∀ S ∈ ax_writers, ck_Ok q0_O X LX 185 S := ck_S1 z0_p2_h154 (ck_S1 z0_p2_h155 (ck_S1 z0_p2_h156 (ck_S1 z0_p2_h157 (ck_S1 z0_p2_h158 (ck_S1 z0_p2_h159 (ck_S1 z0_p2_h160 ck_S0))))))
theorem ax_writers_c : ax_writers.all (fun S => w_k q0_O 0 0 1 true S && w_r true S) = true := by decide +kernel
theorem ax_writers_v : bc_cov 60 [(-2147483648, 2147483647), (-2147483648, 2147483647), (-2147483648, 2147483647)] (ax_writers.map bc_box) = true := by decide +kernel
theorem zL_pl_h154 {X : Int → Int} {LX : Nat} : ck_Ok qL_O X LX 185 pl_h154 := qL_l pl_h154_s (by decide +kernel)
theorem zL_pl_h155 {X : Int → Int} {LX : Nat} : ck_Ok qL_O X LX 185 pl_h155 := qL_l pl_h155_s (by decide +kernel)
theorem zL_pl_h156 {X : Int → Int} {LX : Nat} : ck_Ok qL_O X LX 185 pl_h156 := qL_l pl_h156_s (by decide +kernel)
theorem zL_pl_h157 {X : Int → Int} {LX : Nat} : ck_Ok qL_O X LX 185 pl_h157 := qL_l pl_h157_s (by decide +kernel)
theorem zL_pl_h158 {X : Int → Int} {LX : Nat} : ck_Ok qL_O X LX 185 pl_h158 := qL_l pl_h158_s (by decide +kernel)
theorem zL_pl_h159 {X : Int → Int} {LX : Nat} : ck_Ok qL_O X LX 185 pl_h159 := qL_l pl_h159_s (by decide +kernel)
noncomputable def al_writers : List ck_Sum := [pl_h154, pl_h155, pl_h156, pl_h157, pl_h158, pl_h159, q_pl_h160]
theorem al_writers_s {X : Int → Int} {LX : Nat} : ∀ S ∈ al_writers, ck_Ok qL_O X LX 185 S := ck_S1 zL_pl_h154 (ck_S1 zL_pl_h155 (ck_S1 zL_pl_h156 (ck_S1 zL_pl_h157 (ck_S1 zL_pl_h158 (ck_S1 zL_pl_h159 (ck_S1 q_pl_h160_s ck_S0))))))
theorem al_writers_c : al_writers.all (fun S => w_k qL_O 246 1 1 true S && w_r true S) = true := by decide +kernel
theorem al_writers_v : bc_cov 60 [(-2147483648, 2147483647), (-2147483648, 2147483647), (-2147483648, 2147483647)] (al_writers.map bc_box) = true := by decide +kernel
theorem zR_p2_s1412 {X : Int → Int} {LX : Nat} : ck_Ok qR_O X LX 338 p2_s1412 := qR_l p2_s1412_s (by decide +kernel)
theorem zR_p2_s1413 {X : Int → Int} {LX : Nat} : ck_Ok qR_O X LX 338 p2_s1413 := qR_l p2_s1413_s (by decide +kernel)
theorem zR_p2_s1414 {X : Int → Int} {LX : Nat} : ck_Ok qR_O X LX 338 p2_s1414 := qR_l p2_s1414_s (by decide +kernel)
theorem zR_p2_s1415 {X : Int → Int} {LX : Nat} : ck_Ok qR_O X LX 338 p2_s1415 := qR_l p2_s1415_s (by decide +kernel)
theorem zR_p2_s1417 {X : Int → Int} {LX : Nat} : ck_Ok qR_O X LX 338 p2_s1417 := qR_l p2_s1417_s (by decide +kernel)
theorem zR_p2_s1419 {X : Int → Int} {LX : Nat} : ck_Ok qR_O X LX 338 p2_s1419 := qR_l p2_s1419_s (by decide +kernel)
noncomputable def am_writers : List ck_Sum := [p2_s1412, p2_s1413, p2_s1414, p2_s1415, p2_s1417, p2_s1419, q_p2_s1422]
theorem am_writers_s {X : Int → Int} {LX : Nat} : ∀ S ∈ am_writers, ck_Ok qR_O X LX 338 S := ck_S1 zR_p2_s1412 (ck_S1 zR_p2_s1413 (ck_S1 zR_p2_s1414 (ck_S1 zR_p2_s1415 (ck_S1 zR_p2_s1417 (ck_S1 zR_p2_s1419 (ck_S1 q_p2_s1422_s ck_S0))))))
theorem am_writers_c : am_writers.all (fun S => w_kR S && w_r true S) = true := by decide +kernel
theorem am_writers_v : bc_cov 60 [(-2147483648, 2147483647), (-2147483648, 2147483647), (-2147483648, 2147483647)] (am_writers.map bc_box) = true := by decide +kernel
theorem z0_p2_h161 {X : Int → Int} {LX : Nat} : ck_Ok q0_O X LX 189 p2_h161 := q0_l p2_h161_s (by decide +kernel)
theorem z0_p2_h162 {X : Int → Int} {LX : Nat} : ck_Ok q0_O X LX 189 p2_h162 := q0_l p2_h162_s (by decide +kernel)
theorem z0_p2_h163 {X : Int → Int} {LX : Nat} : ck_Ok q0_O X LX 189 p2_h163 := q0_l p2_h163_s (by decide +kernel)
theorem z0_p2_h164 {X : Int → Int} {LX : Nat} : ck_Ok q0_O X LX 189 p2_h164 := q0_l p2_h164_s (by decide +kernel)
theorem z0_p2_h165 {X : Int → Int} {LX : Nat} : ck_Ok q0_O X LX 189 p2_h165 := q0_l p2_h165_s (by decide +kernel)
theorem z0_p2_h166 {X : Int → Int} {LX : Nat} : ck_Ok q0_O X LX 189 p2_h166 := q0_l p2_h166_s (by decide +kernel)
theorem z0_p2_h167 {X : Int → Int} {LX : Nat} : ck_Ok q0_O X LX 189 p2_h167 := q0_l p2_h167_s (by decide +kernel)
theorem z0_p2_h168 {X : Int → Int} {LX : Nat} : ck_Ok q0_O X LX 189 p2_h168 := q0_l p2_h168_s (by decide +kernel)
theorem z0_p2_h169 {X : Int → Int} {LX : Nat} : ck_Ok q0_O X LX 189 p2_h169 := q0_l p2_h169_s (by decide +kernel)
noncomputable def ax_wrote : List ck_Sum := [p2_h161, p2_h162, p2_h163, p2_h164, p2_h165, p2_h166, p2_h167, p2_h168, p2_h169]
theorem ax_wrote_s {X : Int → Int} {LX : Nat} : ∀ S ∈ ax_wrote, ck_Ok q0_O X LX 189 S := ck_S1 z0_p2_h161 (ck_S1 z0_p2_h162 (ck_S1 z0_p2_h163 (ck_S1 z0_p2_h164 (ck_S1 z0_p2_h165 (ck_S1 z0_p2_h166 (ck_S1 z0_p2_h167 (ck_S1 z0_p2_h168 (ck_S1 z0_p2_h169 ck_S0))))))))
theorem ax_wrote_c : ax_wrote.all (fun S => w_k q0_O 0 0 1 true S && w_r true S) = true := by decide +kernel
theorem ax_wrote_v : bc_cov 60 [(-2147483648, 2147483647), (-2147483648, 2147483647), (-2147483648, 2147483647), (-2147483648, 2147483647)] (ax_wrote.map bc_box) = true := by decide +kernel
theorem zL_pl_h161 {X : Int → Int} {LX : Nat} : ck_Ok qL_O X LX 189 pl_h161 := qL_l pl_h161_s (by decide +kernel)
theorem zL_pl_h162 {X : Int → Int} {LX : Nat} : ck_Ok qL_O X LX 189 pl_h162 := qL_l pl_h162_s (by decide +kernel)
theorem zL_pl_h163 {X : Int → Int} {LX : Nat} : ck_Ok qL_O X LX 189 pl_h163 := qL_l pl_h163_s (by decide +kernel)
theorem zL_pl_h164 {X : Int → Int} {LX : Nat} : ck_Ok qL_O X LX 189 pl_h164 := qL_l pl_h164_s (by decide +kernel)
theorem zL_pl_h165 {X : Int → Int} {LX : Nat} : ck_Ok qL_O X LX 189 pl_h165 := qL_l pl_h165_s (by decide +kernel)
theorem zL_pl_h166 {X : Int → Int} {LX : Nat} : ck_Ok qL_O X LX 189 pl_h166 := qL_l pl_h166_s (by decide +kernel)
theorem zL_pl_h167 {X : Int → Int} {LX : Nat} : ck_Ok qL_O X LX 189 pl_h167 := qL_l pl_h167_s (by decide +kernel)
theorem zL_pl_h168 {X : Int → Int} {LX : Nat} : ck_Ok qL_O X LX 189 pl_h168 := qL_l pl_h168_s (by decide +kernel)
noncomputable def al_wrote : List ck_Sum := [pl_h161, pl_h162, pl_h163, pl_h164, pl_h165, pl_h166, pl_h167, pl_h168, q_pl_h169]
theorem al_wrote_s {X : Int → Int} {LX : Nat} : ∀ S ∈ al_wrote, ck_Ok qL_O X LX 189 S := ck_S1 zL_pl_h161 (ck_S1 zL_pl_h162 (ck_S1 zL_pl_h163 (ck_S1 zL_pl_h164 (ck_S1 zL_pl_h165 (ck_S1 zL_pl_h166 (ck_S1 zL_pl_h167 (ck_S1 zL_pl_h168 (ck_S1 q_pl_h169_s ck_S0))))))))
theorem al_wrote_c : al_wrote.all (fun S => w_k qL_O 246 1 1 true S && w_r true S) = true := by decide +kernel
theorem al_wrote_v : bc_cov 60 [(-2147483648, 2147483647), (-2147483648, 2147483647), (-2147483648, 2147483647), (-2147483648, 2147483647)] (al_wrote.map bc_box) = true := by decide +kernel
theorem zR_p2_s1432 {X : Int → Int} {LX : Nat} : ck_Ok qR_O X LX 340 p2_s1432 := qR_l p2_s1432_s (by decide +kernel)
theorem zR_p2_s1433 {X : Int → Int} {LX : Nat} : ck_Ok qR_O X LX 340 p2_s1433 := qR_l p2_s1433_s (by decide +kernel)
theorem zR_p2_s1434 {X : Int → Int} {LX : Nat} : ck_Ok qR_O X LX 340 p2_s1434 := qR_l p2_s1434_s (by decide +kernel)
theorem zR_p2_s1435 {X : Int → Int} {LX : Nat} : ck_Ok qR_O X LX 340 p2_s1435 := qR_l p2_s1435_s (by decide +kernel)
theorem zR_p2_s1436 {X : Int → Int} {LX : Nat} : ck_Ok qR_O X LX 340 p2_s1436 := qR_l p2_s1436_s (by decide +kernel)
theorem zR_p2_s1437 {X : Int → Int} {LX : Nat} : ck_Ok qR_O X LX 340 p2_s1437 := qR_l p2_s1437_s (by decide +kernel)
theorem zR_p2_s1438 {X : Int → Int} {LX : Nat} : ck_Ok qR_O X LX 340 p2_s1438 := qR_l p2_s1438_s (by decide +kernel)
theorem zR_p2_s1439 {X : Int → Int} {LX : Nat} : ck_Ok qR_O X LX 340 p2_s1439 := qR_l p2_s1439_s (by decide +kernel)
noncomputable def am_wrote : List ck_Sum := [p2_s1432, p2_s1433, p2_s1434, p2_s1435, p2_s1436, p2_s1437, p2_s1438, p2_s1439, q_p2_s1440]
theorem am_wrote_s {X : Int → Int} {LX : Nat} : ∀ S ∈ am_wrote, ck_Ok qR_O X LX 340 S := ck_S1 zR_p2_s1432 (ck_S1 zR_p2_s1433 (ck_S1 zR_p2_s1434 (ck_S1 zR_p2_s1435 (ck_S1 zR_p2_s1436 (ck_S1 zR_p2_s1437 (ck_S1 zR_p2_s1438 (ck_S1 zR_p2_s1439 (ck_S1 q_p2_s1440_s ck_S0))))))))
theorem am_wrote_c : am_wrote.all (fun S => w_kR S && w_r true S) = true := by decide +kernel
theorem am_wrote_v : bc_cov 60 [(-2147483648, 2147483647), (-2147483648, 2147483647), (-2147483648, 2147483647), (-2147483648, 2147483647)] (am_wrote.map bc_box) = true := by decide +kernel
theorem z0_p2_h170 {X : Int → Int} {LX : Nat} : ck_Ok q0_O X LX 191 p2_h170 := q0_l p2_h170_s (by decide +kernel)
theorem z0_p2_h171 {X : Int → Int} {LX : Nat} : ck_Ok q0_O X LX 191 p2_h171 := q0_l p2_h171_s (by decide +kernel)
theorem z0_p2_h172 {X : Int → Int} {LX : Nat} : ck_Ok q0_O X LX 191 p2_h172 := q0_l p2_h172_s (by decide +kernel)
theorem z0_p2_h173 {X : Int → Int} {LX : Nat} : ck_Ok q0_O X LX 191 p2_h173 := q0_l p2_h173_s (by decide +kernel)
theorem z0_p2_h174 {X : Int → Int} {LX : Nat} : ck_Ok q0_O X LX 191 p2_h174 := q0_l p2_h174_s (by decide +kernel)
noncomputable def ax_table : List ck_Sum := [p2_h170, p2_h171, p2_h172, p2_h173, p2_h174]
theorem ax_table_s {X : Int → Int} {LX : Nat} : ∀ S ∈ ax_table, ck_Ok q0_O X LX 191 S := ck_S1 z0_p2_h170 (ck_S1 z0_p2_h171 (ck_S1 z0_p2_h172 (ck_S1 z0_p2_h173 (ck_S1 z0_p2_h174 ck_S0))))
theorem ax_table_c : ax_table.all (fun S => w_k q0_O 0 0 1 true S && w_r true S) = true := by decide +kernel
theorem ax_table_v : bc_cov 60 [(-2147483648, 2147483647), (-2147483648, 2147483647)] (ax_table.map bc_box) = true := by decide +kernel
theorem zL_pl_h170 {X : Int → Int} {LX : Nat} : ck_Ok qL_O X LX 191 pl_h170 := qL_l pl_h170_s (by decide +kernel)
theorem zL_pl_h171 {X : Int → Int} {LX : Nat} : ck_Ok qL_O X LX 191 pl_h171 := qL_l pl_h171_s (by decide +kernel)
theorem zL_pl_h172 {X : Int → Int} {LX : Nat} : ck_Ok qL_O X LX 191 pl_h172 := qL_l pl_h172_s (by decide +kernel)
theorem zL_pl_h173 {X : Int → Int} {LX : Nat} : ck_Ok qL_O X LX 191 pl_h173 := qL_l pl_h173_s (by decide +kernel)
theorem zL_pl_h174 {X : Int → Int} {LX : Nat} : ck_Ok qL_O X LX 191 pl_h174 := qL_l pl_h174_s (by decide +kernel)
noncomputable def al_table : List ck_Sum := [pl_h170, pl_h171, pl_h172, pl_h173, pl_h174]
theorem al_table_s {X : Int → Int} {LX : Nat} : ∀ S ∈ al_table, ck_Ok qL_O X LX 191 S := ck_S1 zL_pl_h170 (ck_S1 zL_pl_h171 (ck_S1 zL_pl_h172 (ck_S1 zL_pl_h173 (ck_S1 zL_pl_h174 ck_S0))))
theorem al_table_c : al_table.all (fun S => w_k qL_O 246 1 1 true S && w_r true S) = true := by decide +kernel
theorem al_table_v : bc_cov 60 [(-2147483648, 2147483647), (-2147483648, 2147483647)] (al_table.map bc_box) = true := by decide +kernel
theorem zR_p2_s1455 {X : Int → Int} {LX : Nat} : ck_Ok qR_O X LX 341 p2_s1455 := qR_l p2_s1455_s (by decide +kernel)
theorem zR_p2_s1457 {X : Int → Int} {LX : Nat} : ck_Ok qR_O X LX 341 p2_s1457 := qR_l p2_s1457_s (by decide +kernel)
theorem zR_p2_s1459 {X : Int → Int} {LX : Nat} : ck_Ok qR_O X LX 341 p2_s1459 := qR_l p2_s1459_s (by decide +kernel)
theorem zR_p2_s1460 {X : Int → Int} {LX : Nat} : ck_Ok qR_O X LX 341 p2_s1460 := qR_l p2_s1460_s (by decide +kernel)
theorem zR_p2_s1462 {X : Int → Int} {LX : Nat} : ck_Ok qR_O X LX 341 p2_s1462 := qR_l p2_s1462_s (by decide +kernel)
noncomputable def am_table : List ck_Sum := [p2_s1455, p2_s1457, p2_s1459, p2_s1460, p2_s1462]
theorem am_table_s {X : Int → Int} {LX : Nat} : ∀ S ∈ am_table, ck_Ok qR_O X LX 341 S := ck_S1 zR_p2_s1455 (ck_S1 zR_p2_s1457 (ck_S1 zR_p2_s1459 (ck_S1 zR_p2_s1460 (ck_S1 zR_p2_s1462 ck_S0))))
theorem am_table_c : am_table.all (fun S => w_kR S && w_r true S) = true := by decide +kernel
theorem am_table_v : bc_cov 60 [(-2147483648, 2147483647), (-2147483648, 2147483647)] (am_table.map bc_box) = true := by decide +kernel
theorem z0_p2_h175 {X : Int → Int} {LX : Nat} : ck_Ok q0_O X LX 194 p2_h175 := q0_l p2_h175_s (by decide +kernel)
theorem z0_p2_h176 {X : Int → Int} {LX : Nat} : ck_Ok q0_O X LX 194 p2_h176 := q0_l p2_h176_s (by decide +kernel)
theorem z0_p2_h177 {X : Int → Int} {LX : Nat} : ck_Ok q0_O X LX 194 p2_h177 := q0_l p2_h177_s (by decide +kernel)
theorem z0_p2_h178 {X : Int → Int} {LX : Nat} : ck_Ok q0_O X LX 194 p2_h178 := q0_l p2_h178_s (by decide +kernel)
theorem z0_p2_h179 {X : Int → Int} {LX : Nat} : ck_Ok q0_O X LX 194 p2_h179 := q0_l p2_h179_s (by decide +kernel)
noncomputable def ax_apart : List ck_Sum := [p2_h175, p2_h176, p2_h177, p2_h178, p2_h179]
theorem ax_apart_s {X : Int → Int} {LX : Nat} : ∀ S ∈ ax_apart, ck_Ok q0_O X LX 194 S := ck_S1 z0_p2_h175 (ck_S1 z0_p2_h176 (ck_S1 z0_p2_h177 (ck_S1 z0_p2_h178 (ck_S1 z0_p2_h179 ck_S0))))
theorem ax_apart_c : ax_apart.all (fun S => w_k q0_O 0 0 1 true S && w_r true S) = true := by decide +kernel
theorem ax_apart_v : bc_cov 60 [(-2147483648, 2147483647), (-2147483648, 2147483647), (-2147483648, 2147483647)] (ax_apart.map bc_box) = true := by decide +kernel
theorem zL_pl_h175 {X : Int → Int} {LX : Nat} : ck_Ok qL_O X LX 194 pl_h175 := qL_l pl_h175_s (by decide +kernel)
theorem zL_pl_h176 {X : Int → Int} {LX : Nat} : ck_Ok qL_O X LX 194 pl_h176 := qL_l pl_h176_s (by decide +kernel)
theorem zL_pl_h177 {X : Int → Int} {LX : Nat} : ck_Ok qL_O X LX 194 pl_h177 := qL_l pl_h177_s (by decide +kernel)
theorem zL_pl_h178 {X : Int → Int} {LX : Nat} : ck_Ok qL_O X LX 194 pl_h178 := qL_l pl_h178_s (by decide +kernel)
theorem zL_pl_h179 {X : Int → Int} {LX : Nat} : ck_Ok qL_O X LX 194 pl_h179 := qL_l pl_h179_s (by decide +kernel)
noncomputable def al_apart : List ck_Sum := [pl_h175, pl_h176, pl_h177, pl_h178, pl_h179]
theorem al_apart_s {X : Int → Int} {LX : Nat} : ∀ S ∈ al_apart, ck_Ok qL_O X LX 194 S := ck_S1 zL_pl_h175 (ck_S1 zL_pl_h176 (ck_S1 zL_pl_h177 (ck_S1 zL_pl_h178 (ck_S1 zL_pl_h179 ck_S0))))
theorem al_apart_c : al_apart.all (fun S => w_k qL_O 246 1 1 true S && w_r true S) = true := by decide +kernel
theorem al_apart_v : bc_cov 60 [(-2147483648, 2147483647), (-2147483648, 2147483647), (-2147483648, 2147483647)] (al_apart.map bc_box) = true := by decide +kernel
theorem zR_p2_s1469 {X : Int → Int} {LX : Nat} : ck_Ok qR_O X LX 344 p2_s1469 := qR_l p2_s1469_s (by decide +kernel)
theorem zR_p2_s1470 {X : Int → Int} {LX : Nat} : ck_Ok qR_O X LX 344 p2_s1470 := qR_l p2_s1470_s (by decide +kernel)
theorem zR_p2_s1471 {X : Int → Int} {LX : Nat} : ck_Ok qR_O X LX 344 p2_s1471 := qR_l p2_s1471_s (by decide +kernel)
theorem zR_p2_s1472 {X : Int → Int} {LX : Nat} : ck_Ok qR_O X LX 344 p2_s1472 := qR_l p2_s1472_s (by decide +kernel)
theorem zR_p2_s1475 {X : Int → Int} {LX : Nat} : ck_Ok qR_O X LX 344 p2_s1475 := qR_l p2_s1475_s (by decide +kernel)
noncomputable def am_apart : List ck_Sum := [p2_s1469, p2_s1470, p2_s1471, p2_s1472, p2_s1475]
theorem am_apart_s {X : Int → Int} {LX : Nat} : ∀ S ∈ am_apart, ck_Ok qR_O X LX 344 S := ck_S1 zR_p2_s1469 (ck_S1 zR_p2_s1470 (ck_S1 zR_p2_s1471 (ck_S1 zR_p2_s1472 (ck_S1 zR_p2_s1475 ck_S0))))
theorem am_apart_c : am_apart.all (fun S => w_kR S && w_r true S) = true := by decide +kernel
theorem am_apart_v : bc_cov 60 [(-2147483648, 2147483647), (-2147483648, 2147483647), (-2147483648, 2147483647)] (am_apart.map bc_box) = true := by decide +kernel
theorem z0_p2_s1478 {X : Int → Int} {LX : Nat} : ck_Ok q0_O X LX 48 p2_s1478 := q0_l p2_s1478_s (by decide +kernel)
noncomputable def ax_poles : List ck_Sum := [p2_s1478]
theorem ax_poles_s {X : Int → Int} {LX : Nat} : ∀ S ∈ ax_poles, ck_Ok q0_O X LX 48 S := ck_S1 z0_p2_s1478 ck_S0
theorem ax_poles_c : ax_poles.all (fun S => w_k q0_O 0 0 1 false S && w_r true S) = true := by decide +kernel
theorem ax_poles_v : bc_cov 60 [] (ax_poles.map bc_box) = true := by decide +kernel
theorem zL_pl_s775 {X : Int → Int} {LX : Nat} : ck_Ok qL_O X LX 48 pl_s775 := qL_l pl_s775_s (by decide +kernel)
noncomputable def al_poles : List ck_Sum := [pl_s775]
theorem al_poles_s {X : Int → Int} {LX : Nat} : ∀ S ∈ al_poles, ck_Ok qL_O X LX 48 S := ck_S1 zL_pl_s775 ck_S0
theorem al_poles_c : al_poles.all (fun S => w_k qL_O 246 1 1 false S && w_r true S) = true := by decide +kernel
theorem al_poles_v : bc_cov 60 [] (al_poles.map bc_box) = true := by decide +kernel
theorem zR_p2_s1479 {X : Int → Int} {LX : Nat} : ck_Ok qR_O X LX 347 p2_s1479 := qR_l p2_s1479_s (by decide +kernel)
noncomputable def am_poles : List ck_Sum := [p2_s1479]
theorem am_poles_s {X : Int → Int} {LX : Nat} : ∀ S ∈ am_poles, ck_Ok qR_O X LX 347 S := ck_S1 zR_p2_s1479 ck_S0
theorem am_poles_c : am_poles.all (fun S => w_kR S && w_r true S) = true := by decide +kernel
theorem am_poles_v : bc_cov 60 [] (am_poles.map bc_box) = true := by decide +kernel
noncomputable def ax_fit : List ck_Sum := [p2_h180]
theorem ax_fit_s {X : Int → Int} {LX : Nat} : ∀ S ∈ ax_fit, ck_Ok p2_O X LX 196 S := ck_S1 p2_h180_s ck_S0
theorem ax_fit_c : ax_fit.all (fun S => w_ft p2_O 0 0 1 true 1 1 S && w_r true S) = true := by decide +kernel
theorem ax_fit_v : bc_cov 60 [] (ax_fit.map bc_box) = true := by decide +kernel
noncomputable def al_fit : List ck_Sum := [pl_h180]
theorem al_fit_s {X : Int → Int} {LX : Nat} : ∀ S ∈ al_fit, ck_Ok p2_OL X LX 196 S := ck_S1 pl_h180_s ck_S0
theorem al_fit_c : al_fit.all (fun S => w_ft p2_OL 246 1 1 true 1 1 S && w_r true S) = true := by decide +kernel
theorem al_fit_v : bc_cov 60 [] (al_fit.map bc_box) = true := by decide +kernel
noncomputable def am_fit : List ck_Sum := [p2_s1487]
theorem am_fit_s {X : Int → Int} {LX : Nat} : ∀ S ∈ am_fit, ck_Ok p2_O X LX 348 S := ck_S1 p2_s1487_s ck_S0
theorem am_fit_c : am_fit.all (fun S => w_ft p2_O 100003 0 226 false 226 8 S && w_r true S) = true := by decide +kernel
theorem am_fit_v : bc_cov 60 [] (am_fit.map bc_box) = true := by decide +kernel
theorem z0_p2_h181 {X : Int → Int} {LX : Nat} : ck_Ok q0_O X LX 200 p2_h181 := q0_l p2_h181_s (by decide +kernel)
theorem z0_p2_h182 {X : Int → Int} {LX : Nat} : ck_Ok q0_O X LX 200 p2_h182 := q0_l p2_h182_s (by decide +kernel)
theorem z0_p2_h183 {X : Int → Int} {LX : Nat} : ck_Ok q0_O X LX 200 p2_h183 := q0_l p2_h183_s (by decide +kernel)
theorem z0_p2_h184 {X : Int → Int} {LX : Nat} : ck_Ok q0_O X LX 200 p2_h184 := q0_l p2_h184_s (by decide +kernel)
theorem z0_p2_h185 {X : Int → Int} {LX : Nat} : ck_Ok q0_O X LX 200 p2_h185 := q0_l p2_h185_s (by decide +kernel)
noncomputable def ax_soonest : List ck_Sum := [p2_h181, p2_h182, p2_h183, p2_h184, p2_h185]
theorem ax_soonest_s {X : Int → Int} {LX : Nat} : ∀ S ∈ ax_soonest, ck_Ok q0_O X LX 200 S := ck_S1 z0_p2_h181 (ck_S1 z0_p2_h182 (ck_S1 z0_p2_h183 (ck_S1 z0_p2_h184 (ck_S1 z0_p2_h185 ck_S0))))
theorem ax_soonest_c : ax_soonest.all (fun S => w_k q0_O 0 0 1 true S && w_r true S) = true := by decide +kernel
theorem ax_soonest_v : bc_cov 60 [(-2147483648, 2147483647), (-2147483648, 2147483647), (0, 1)] (ax_soonest.map bc_box) = true := by decide +kernel
theorem zL_pl_h181 {X : Int → Int} {LX : Nat} : ck_Ok qL_O X LX 200 pl_h181 := qL_l pl_h181_s (by decide +kernel)
theorem zL_pl_h182 {X : Int → Int} {LX : Nat} : ck_Ok qL_O X LX 200 pl_h182 := qL_l pl_h182_s (by decide +kernel)
theorem zL_pl_h183 {X : Int → Int} {LX : Nat} : ck_Ok qL_O X LX 200 pl_h183 := qL_l pl_h183_s (by decide +kernel)
theorem zL_pl_h184 {X : Int → Int} {LX : Nat} : ck_Ok qL_O X LX 200 pl_h184 := qL_l pl_h184_s (by decide +kernel)
noncomputable def al_soonest : List ck_Sum := [pl_h181, pl_h182, pl_h183, pl_h184, q_pl_h185]
theorem al_soonest_s {X : Int → Int} {LX : Nat} : ∀ S ∈ al_soonest, ck_Ok qL_O X LX 200 S := ck_S1 zL_pl_h181 (ck_S1 zL_pl_h182 (ck_S1 zL_pl_h183 (ck_S1 zL_pl_h184 (ck_S1 q_pl_h185_s ck_S0))))
theorem al_soonest_c : al_soonest.all (fun S => w_k qL_O 246 1 1 true S && w_r true S) = true := by decide +kernel
theorem al_soonest_v : bc_cov 60 [(-2147483648, 2147483647), (-2147483648, 2147483647), (0, 1)] (al_soonest.map bc_box) = true := by decide +kernel
theorem zR_p2_s1507 {X : Int → Int} {LX : Nat} : ck_Ok qR_O X LX 349 p2_s1507 := qR_l p2_s1507_s (by decide +kernel)
theorem zR_p2_s1508 {X : Int → Int} {LX : Nat} : ck_Ok qR_O X LX 349 p2_s1508 := qR_l p2_s1508_s (by decide +kernel)
theorem zR_p2_s1509 {X : Int → Int} {LX : Nat} : ck_Ok qR_O X LX 349 p2_s1509 := qR_l p2_s1509_s (by decide +kernel)
theorem zR_p2_s1510 {X : Int → Int} {LX : Nat} : ck_Ok qR_O X LX 349 p2_s1510 := qR_l p2_s1510_s (by decide +kernel)
noncomputable def am_soonest : List ck_Sum := [p2_s1507, p2_s1508, p2_s1509, p2_s1510, q_p2_s1515]
theorem am_soonest_s {X : Int → Int} {LX : Nat} : ∀ S ∈ am_soonest, ck_Ok qR_O X LX 349 S := ck_S1 zR_p2_s1507 (ck_S1 zR_p2_s1508 (ck_S1 zR_p2_s1509 (ck_S1 zR_p2_s1510 (ck_S1 q_p2_s1515_s ck_S0))))
theorem am_soonest_c : am_soonest.all (fun S => w_kR S && w_r true S) = true := by decide +kernel
theorem am_soonest_v : bc_cov 60 [(-2147483648, 2147483647), (-2147483648, 2147483647), (0, 1)] (am_soonest.map bc_box) = true := by decide +kernel
theorem z0_p2_h186 {X : Int → Int} {LX : Nat} : ck_Ok q0_O X LX 206 p2_h186 := q0_l p2_h186_s (by decide +kernel)
theorem z0_p2_h187 {X : Int → Int} {LX : Nat} : ck_Ok q0_O X LX 206 p2_h187 := q0_l p2_h187_s (by decide +kernel)
theorem z0_p2_h188 {X : Int → Int} {LX : Nat} : ck_Ok q0_O X LX 206 p2_h188 := q0_l p2_h188_s (by decide +kernel)
theorem z0_p2_h189 {X : Int → Int} {LX : Nat} : ck_Ok q0_O X LX 206 p2_h189 := q0_l p2_h189_s (by decide +kernel)
theorem z0_p2_h190 {X : Int → Int} {LX : Nat} : ck_Ok q0_O X LX 206 p2_h190 := q0_l p2_h190_s (by decide +kernel)
theorem z0_p2_h191 {X : Int → Int} {LX : Nat} : ck_Ok q0_O X LX 206 p2_h191 := q0_l p2_h191_s (by decide +kernel)
theorem z0_p2_h192 {X : Int → Int} {LX : Nat} : ck_Ok q0_O X LX 206 p2_h192 := q0_l p2_h192_s (by decide +kernel)
noncomputable def ax_chain : List ck_Sum := [p2_h186, p2_h187, p2_h188, p2_h189, p2_h190, p2_h191, p2_h192]
theorem ax_chain_s {X : Int → Int} {LX : Nat} : ∀ S ∈ ax_chain, ck_Ok q0_O X LX 206 S := ck_S1 z0_p2_h186 (ck_S1 z0_p2_h187 (ck_S1 z0_p2_h188 (ck_S1 z0_p2_h189 (ck_S1 z0_p2_h190 (ck_S1 z0_p2_h191 (ck_S1 z0_p2_h192 ck_S0))))))
theorem ax_chain_c : ax_chain.all (fun S => w_k q0_O 0 0 1 true S && w_r true S) = true := by decide +kernel
theorem ax_chain_v : bc_cov 60 [(-2147483648, 2147483647), (-2147483648, 2147483647), (-2147483648, 2147483647)] (ax_chain.map bc_box) = true := by decide +kernel
theorem zL_pl_h186 {X : Int → Int} {LX : Nat} : ck_Ok qL_O X LX 206 pl_h186 := qL_l pl_h186_s (by decide +kernel)
theorem zL_pl_h187 {X : Int → Int} {LX : Nat} : ck_Ok qL_O X LX 206 pl_h187 := qL_l pl_h187_s (by decide +kernel)
theorem zL_pl_h188 {X : Int → Int} {LX : Nat} : ck_Ok qL_O X LX 206 pl_h188 := qL_l pl_h188_s (by decide +kernel)
theorem zL_pl_h189 {X : Int → Int} {LX : Nat} : ck_Ok qL_O X LX 206 pl_h189 := qL_l pl_h189_s (by decide +kernel)
noncomputable def al_chain : List ck_Sum := [pl_h186, pl_h187, pl_h188, pl_h189, q_pl_h190, q_pl_h191, q_pl_h192]
theorem al_chain_s {X : Int → Int} {LX : Nat} : ∀ S ∈ al_chain, ck_Ok qL_O X LX 206 S := ck_S1 zL_pl_h186 (ck_S1 zL_pl_h187 (ck_S1 zL_pl_h188 (ck_S1 zL_pl_h189 (ck_S1 q_pl_h190_s (ck_S1 q_pl_h191_s (ck_S1 q_pl_h192_s ck_S0))))))
theorem al_chain_c : al_chain.all (fun S => w_k qL_O 246 1 1 true S && w_r true S) = true := by decide +kernel
theorem al_chain_v : bc_cov 60 [(-2147483648, 2147483647), (-2147483648, 2147483647), (-2147483648, 2147483647)] (al_chain.map bc_box) = true := by decide +kernel
theorem zR_p2_s1529 {X : Int → Int} {LX : Nat} : ck_Ok qR_O X LX 354 p2_s1529 := qR_l p2_s1529_s (by decide +kernel)
theorem zR_p2_s1530 {X : Int → Int} {LX : Nat} : ck_Ok qR_O X LX 354 p2_s1530 := qR_l p2_s1530_s (by decide +kernel)
theorem zR_p2_s1531 {X : Int → Int} {LX : Nat} : ck_Ok qR_O X LX 354 p2_s1531 := qR_l p2_s1531_s (by decide +kernel)
theorem zR_p2_s1532 {X : Int → Int} {LX : Nat} : ck_Ok qR_O X LX 354 p2_s1532 := qR_l p2_s1532_s (by decide +kernel)
noncomputable def am_chain : List ck_Sum := [p2_s1529, p2_s1530, p2_s1531, p2_s1532, q_p2_s1536, q_p2_s1538, q_p2_s1540]
theorem am_chain_s {X : Int → Int} {LX : Nat} : ∀ S ∈ am_chain, ck_Ok qR_O X LX 354 S := ck_S1 zR_p2_s1529 (ck_S1 zR_p2_s1530 (ck_S1 zR_p2_s1531 (ck_S1 zR_p2_s1532 (ck_S1 q_p2_s1536_s (ck_S1 q_p2_s1538_s (ck_S1 q_p2_s1540_s ck_S0))))))
theorem am_chain_c : am_chain.all (fun S => w_kR S && w_r true S) = true := by decide +kernel
theorem am_chain_v : bc_cov 60 [(-2147483648, 2147483647), (-2147483648, 2147483647), (-2147483648, 2147483647)] (am_chain.map bc_box) = true := by decide +kernel
theorem z0_p2_h193 {X : Int → Int} {LX : Nat} : ck_Ok q0_O X LX 210 p2_h193 := q0_l p2_h193_s (by decide +kernel)
theorem z0_p2_h194 {X : Int → Int} {LX : Nat} : ck_Ok q0_O X LX 210 p2_h194 := q0_l p2_h194_s (by decide +kernel)
theorem z0_p2_h195 {X : Int → Int} {LX : Nat} : ck_Ok q0_O X LX 210 p2_h195 := q0_l p2_h195_s (by decide +kernel)
theorem z0_p2_h196 {X : Int → Int} {LX : Nat} : ck_Ok q0_O X LX 210 p2_h196 := q0_l p2_h196_s (by decide +kernel)
theorem z0_p2_h197 {X : Int → Int} {LX : Nat} : ck_Ok q0_O X LX 210 p2_h197 := q0_l p2_h197_s (by decide +kernel)
noncomputable def ax_reached : List ck_Sum := [p2_h193, p2_h194, p2_h195, p2_h196, p2_h197]
theorem ax_reached_s {X : Int → Int} {LX : Nat} : ∀ S ∈ ax_reached, ck_Ok q0_O X LX 210 S := ck_S1 z0_p2_h193 (ck_S1 z0_p2_h194 (ck_S1 z0_p2_h195 (ck_S1 z0_p2_h196 (ck_S1 z0_p2_h197 ck_S0))))
theorem ax_reached_c : ax_reached.all (fun S => w_k q0_O 0 0 1 true S && w_r true S) = true := by decide +kernel
theorem ax_reached_v : bc_cov 60 [(-2147483648, 2147483647), (-2147483648, 2147483647)] (ax_reached.map bc_box) = true := by decide +kernel
theorem zL_pl_h193 {X : Int → Int} {LX : Nat} : ck_Ok qL_O X LX 210 pl_h193 := qL_l pl_h193_s (by decide +kernel)
theorem zL_pl_h194 {X : Int → Int} {LX : Nat} : ck_Ok qL_O X LX 210 pl_h194 := qL_l pl_h194_s (by decide +kernel)
theorem zL_pl_h195 {X : Int → Int} {LX : Nat} : ck_Ok qL_O X LX 210 pl_h195 := qL_l pl_h195_s (by decide +kernel)
theorem zL_pl_h196 {X : Int → Int} {LX : Nat} : ck_Ok qL_O X LX 210 pl_h196 := qL_l pl_h196_s (by decide +kernel)
noncomputable def al_reached : List ck_Sum := [pl_h193, pl_h194, pl_h195, pl_h196, q_pl_h197]
theorem al_reached_s {X : Int → Int} {LX : Nat} : ∀ S ∈ al_reached, ck_Ok qL_O X LX 210 S := ck_S1 zL_pl_h193 (ck_S1 zL_pl_h194 (ck_S1 zL_pl_h195 (ck_S1 zL_pl_h196 (ck_S1 q_pl_h197_s ck_S0))))
theorem al_reached_c : al_reached.all (fun S => w_k qL_O 246 1 1 true S && w_r true S) = true := by decide +kernel
theorem al_reached_v : bc_cov 60 [(-2147483648, 2147483647), (-2147483648, 2147483647)] (al_reached.map bc_box) = true := by decide +kernel
theorem zR_p2_s1549 {X : Int → Int} {LX : Nat} : ck_Ok qR_O X LX 356 p2_s1549 := qR_l p2_s1549_s (by decide +kernel)
theorem zR_p2_s1550 {X : Int → Int} {LX : Nat} : ck_Ok qR_O X LX 356 p2_s1550 := qR_l p2_s1550_s (by decide +kernel)
theorem zR_p2_s1551 {X : Int → Int} {LX : Nat} : ck_Ok qR_O X LX 356 p2_s1551 := qR_l p2_s1551_s (by decide +kernel)
theorem zR_p2_s1552 {X : Int → Int} {LX : Nat} : ck_Ok qR_O X LX 356 p2_s1552 := qR_l p2_s1552_s (by decide +kernel)
noncomputable def am_reached : List ck_Sum := [p2_s1549, p2_s1550, p2_s1551, p2_s1552, q_p2_s1553]
theorem am_reached_s {X : Int → Int} {LX : Nat} : ∀ S ∈ am_reached, ck_Ok qR_O X LX 356 S := ck_S1 zR_p2_s1549 (ck_S1 zR_p2_s1550 (ck_S1 zR_p2_s1551 (ck_S1 zR_p2_s1552 (ck_S1 q_p2_s1553_s ck_S0))))
theorem am_reached_c : am_reached.all (fun S => w_kR S && w_r true S) = true := by decide +kernel
theorem am_reached_v : bc_cov 60 [(-2147483648, 2147483647), (-2147483648, 2147483647)] (am_reached.map bc_box) = true := by decide +kernel
theorem z0_p2_h198 {X : Int → Int} {LX : Nat} : ck_Ok q0_O X LX 212 p2_h198 := q0_l p2_h198_s (by decide +kernel)
theorem z0_p2_h199 {X : Int → Int} {LX : Nat} : ck_Ok q0_O X LX 212 p2_h199 := q0_l p2_h199_s (by decide +kernel)
noncomputable def ax_thieves : List ck_Sum := [p2_h198, p2_h199, q_p2_h200]
theorem ax_thieves_s {X : Int → Int} {LX : Nat} : ∀ S ∈ ax_thieves, ck_Ok q0_O X LX 212 S := ck_S1 z0_p2_h198 (ck_S1 z0_p2_h199 (ck_S1 q_p2_h200_s ck_S0))
theorem ax_thieves_c : ax_thieves.all (fun S => w_k q0_O 0 0 1 true S && w_r true S) = true := by decide +kernel
theorem ax_thieves_v : bc_cov 60 [(-2147483648, 2147483647), (0, 1)] (ax_thieves.map bc_box) = true := by decide +kernel
theorem zL_pl_h198 {X : Int → Int} {LX : Nat} : ck_Ok qL_O X LX 212 pl_h198 := qL_l pl_h198_s (by decide +kernel)
theorem zL_pl_h199 {X : Int → Int} {LX : Nat} : ck_Ok qL_O X LX 212 pl_h199 := qL_l pl_h199_s (by decide +kernel)
noncomputable def al_thieves : List ck_Sum := [pl_h198, pl_h199, q_pl_h200]
theorem al_thieves_s {X : Int → Int} {LX : Nat} : ∀ S ∈ al_thieves, ck_Ok qL_O X LX 212 S := ck_S1 zL_pl_h198 (ck_S1 zL_pl_h199 (ck_S1 q_pl_h200_s ck_S0))
theorem al_thieves_c : al_thieves.all (fun S => w_k qL_O 246 1 1 true S && w_r true S) = true := by decide +kernel
theorem al_thieves_v : bc_cov 60 [(-2147483648, 2147483647), (0, 1)] (al_thieves.map bc_box) = true := by decide +kernel
theorem zR_p2_s1571 {X : Int → Int} {LX : Nat} : ck_Ok qR_O X LX 357 p2_s1571 := qR_l p2_s1571_s (by decide +kernel)
theorem zR_p2_s1573 {X : Int → Int} {LX : Nat} : ck_Ok qR_O X LX 357 p2_s1573 := qR_l p2_s1573_s (by decide +kernel)
noncomputable def am_thieves : List ck_Sum := [p2_s1571, p2_s1573, q_p2_s1582]
theorem am_thieves_s {X : Int → Int} {LX : Nat} : ∀ S ∈ am_thieves, ck_Ok qR_O X LX 357 S := ck_S1 zR_p2_s1571 (ck_S1 zR_p2_s1573 (ck_S1 q_p2_s1582_s ck_S0))
theorem am_thieves_c : am_thieves.all (fun S => w_kR S && w_r true S) = true := by decide +kernel
theorem am_thieves_v : bc_cov 60 [(-2147483648, 2147483647), (0, 1)] (am_thieves.map bc_box) = true := by decide +kernel
theorem z0_p2_h201 {X : Int → Int} {LX : Nat} : ck_Ok q0_O X LX 217 p2_h201 := q0_l p2_h201_s (by decide +kernel)
theorem z0_p2_h202 {X : Int → Int} {LX : Nat} : ck_Ok q0_O X LX 217 p2_h202 := q0_l p2_h202_s (by decide +kernel)
noncomputable def ax_watchman : List ck_Sum := [p2_h201, p2_h202, q_p2_h203]
theorem ax_watchman_s {X : Int → Int} {LX : Nat} : ∀ S ∈ ax_watchman, ck_Ok q0_O X LX 217 S := ck_S1 z0_p2_h201 (ck_S1 z0_p2_h202 (ck_S1 q_p2_h203_s ck_S0))
theorem ax_watchman_c : ax_watchman.all (fun S => w_k q0_O 0 0 1 true S && w_r true S) = true := by decide +kernel
theorem ax_watchman_v : bc_cov 60 [(-2147483648, 2147483647), (0, 1)] (ax_watchman.map bc_box) = true := by decide +kernel
theorem zL_pl_h201 {X : Int → Int} {LX : Nat} : ck_Ok qL_O X LX 217 pl_h201 := qL_l pl_h201_s (by decide +kernel)
theorem zL_pl_h202 {X : Int → Int} {LX : Nat} : ck_Ok qL_O X LX 217 pl_h202 := qL_l pl_h202_s (by decide +kernel)
noncomputable def al_watchman : List ck_Sum := [pl_h201, pl_h202, q_pl_h203]
theorem al_watchman_s {X : Int → Int} {LX : Nat} : ∀ S ∈ al_watchman, ck_Ok qL_O X LX 217 S := ck_S1 zL_pl_h201 (ck_S1 zL_pl_h202 (ck_S1 q_pl_h203_s ck_S0))
theorem al_watchman_c : al_watchman.all (fun S => w_k qL_O 246 1 1 true S && w_r true S) = true := by decide +kernel
theorem al_watchman_v : bc_cov 60 [(-2147483648, 2147483647), (0, 1)] (al_watchman.map bc_box) = true := by decide +kernel
theorem zR_p2_s1588 {X : Int → Int} {LX : Nat} : ck_Ok qR_O X LX 359 p2_s1588 := qR_l p2_s1588_s (by decide +kernel)
theorem zR_p2_s1589 {X : Int → Int} {LX : Nat} : ck_Ok qR_O X LX 359 p2_s1589 := qR_l p2_s1589_s (by decide +kernel)
noncomputable def am_watchman : List ck_Sum := [p2_s1588, p2_s1589, q_p2_s1590]
theorem am_watchman_s {X : Int → Int} {LX : Nat} : ∀ S ∈ am_watchman, ck_Ok qR_O X LX 359 S := ck_S1 zR_p2_s1588 (ck_S1 zR_p2_s1589 (ck_S1 q_p2_s1590_s ck_S0))
theorem am_watchman_c : am_watchman.all (fun S => w_kR S && w_r true S) = true := by decide +kernel
theorem am_watchman_v : bc_cov 60 [(-2147483648, 2147483647), (0, 1)] (am_watchman.map bc_box) = true := by decide +kernel
theorem z0_p2_h204 {X : Int → Int} {LX : Nat} : ck_Ok q0_O X LX 220 p2_h204 := q0_l p2_h204_s (by decide +kernel)
theorem z0_p2_h205 {X : Int → Int} {LX : Nat} : ck_Ok q0_O X LX 220 p2_h205 := q0_l p2_h205_s (by decide +kernel)
theorem z0_p2_h206 {X : Int → Int} {LX : Nat} : ck_Ok q0_O X LX 220 p2_h206 := q0_l p2_h206_s (by decide +kernel)
theorem z0_p2_h207 {X : Int → Int} {LX : Nat} : ck_Ok q0_O X LX 220 p2_h207 := q0_l p2_h207_s (by decide +kernel)
theorem z0_p2_h208 {X : Int → Int} {LX : Nat} : ck_Ok q0_O X LX 220 p2_h208 := q0_l p2_h208_s (by decide +kernel)
noncomputable def ax_meeting : List ck_Sum := [p2_h204, p2_h205, p2_h206, p2_h207, p2_h208]
theorem ax_meeting_s {X : Int → Int} {LX : Nat} : ∀ S ∈ ax_meeting, ck_Ok q0_O X LX 220 S := ck_S1 z0_p2_h204 (ck_S1 z0_p2_h205 (ck_S1 z0_p2_h206 (ck_S1 z0_p2_h207 (ck_S1 z0_p2_h208 ck_S0))))
theorem ax_meeting_c : ax_meeting.all (fun S => w_k q0_O 0 0 1 true S && w_r true S) = true := by decide +kernel
theorem ax_meeting_v : bc_cov 60 [(-2147483648, 2147483647), (-2147483648, 2147483647)] (ax_meeting.map bc_box) = true := by decide +kernel
theorem zL_pl_h204 {X : Int → Int} {LX : Nat} : ck_Ok qL_O X LX 220 pl_h204 := qL_l pl_h204_s (by decide +kernel)
theorem zL_pl_h205 {X : Int → Int} {LX : Nat} : ck_Ok qL_O X LX 220 pl_h205 := qL_l pl_h205_s (by decide +kernel)
theorem zL_pl_h206 {X : Int → Int} {LX : Nat} : ck_Ok qL_O X LX 220 pl_h206 := qL_l pl_h206_s (by decide +kernel)
theorem zL_pl_h207 {X : Int → Int} {LX : Nat} : ck_Ok qL_O X LX 220 pl_h207 := qL_l pl_h207_s (by decide +kernel)
noncomputable def al_meeting : List ck_Sum := [pl_h204, pl_h205, pl_h206, pl_h207, q_pl_h208]
theorem al_meeting_s {X : Int → Int} {LX : Nat} : ∀ S ∈ al_meeting, ck_Ok qL_O X LX 220 S := ck_S1 zL_pl_h204 (ck_S1 zL_pl_h205 (ck_S1 zL_pl_h206 (ck_S1 zL_pl_h207 (ck_S1 q_pl_h208_s ck_S0))))
theorem al_meeting_c : al_meeting.all (fun S => w_k qL_O 246 1 1 true S && w_r true S) = true := by decide +kernel
theorem al_meeting_v : bc_cov 60 [(-2147483648, 2147483647), (-2147483648, 2147483647)] (al_meeting.map bc_box) = true := by decide +kernel
theorem zR_p2_s1598 {X : Int → Int} {LX : Nat} : ck_Ok qR_O X LX 360 p2_s1598 := qR_l p2_s1598_s (by decide +kernel)
theorem zR_p2_s1599 {X : Int → Int} {LX : Nat} : ck_Ok qR_O X LX 360 p2_s1599 := qR_l p2_s1599_s (by decide +kernel)
theorem zR_p2_s1600 {X : Int → Int} {LX : Nat} : ck_Ok qR_O X LX 360 p2_s1600 := qR_l p2_s1600_s (by decide +kernel)
theorem zR_p2_s1601 {X : Int → Int} {LX : Nat} : ck_Ok qR_O X LX 360 p2_s1601 := qR_l p2_s1601_s (by decide +kernel)
noncomputable def am_meeting : List ck_Sum := [p2_s1598, p2_s1599, p2_s1600, p2_s1601, q_p2_s1602]
theorem am_meeting_s {X : Int → Int} {LX : Nat} : ∀ S ∈ am_meeting, ck_Ok qR_O X LX 360 S := ck_S1 zR_p2_s1598 (ck_S1 zR_p2_s1599 (ck_S1 zR_p2_s1600 (ck_S1 zR_p2_s1601 (ck_S1 q_p2_s1602_s ck_S0))))
theorem am_meeting_c : am_meeting.all (fun S => w_kR S && w_r true S) = true := by decide +kernel
theorem am_meeting_v : bc_cov 60 [(-2147483648, 2147483647), (-2147483648, 2147483647)] (am_meeting.map bc_box) = true := by decide +kernel
theorem z0_p2_h209 {X : Int → Int} {LX : Nat} : ck_Ok q0_O X LX 222 p2_h209 := q0_l p2_h209_s (by decide +kernel)
theorem z0_p2_h210 {X : Int → Int} {LX : Nat} : ck_Ok q0_O X LX 222 p2_h210 := q0_l p2_h210_s (by decide +kernel)
noncomputable def ax_outs : List ck_Sum := [p2_h209, p2_h210, q_p2_h211]
theorem ax_outs_s {X : Int → Int} {LX : Nat} : ∀ S ∈ ax_outs, ck_Ok q0_O X LX 222 S := ck_S1 z0_p2_h209 (ck_S1 z0_p2_h210 (ck_S1 q_p2_h211_s ck_S0))
theorem ax_outs_c : ax_outs.all (fun S => w_k q0_O 0 0 1 true S && w_r true S) = true := by decide +kernel
theorem ax_outs_v : bc_cov 60 [(-2147483648, 2147483647)] (ax_outs.map bc_box) = true := by decide +kernel
theorem zL_pl_h209 {X : Int → Int} {LX : Nat} : ck_Ok qL_O X LX 222 pl_h209 := qL_l pl_h209_s (by decide +kernel)
theorem zL_pl_h210 {X : Int → Int} {LX : Nat} : ck_Ok qL_O X LX 222 pl_h210 := qL_l pl_h210_s (by decide +kernel)
noncomputable def al_outs : List ck_Sum := [pl_h209, pl_h210, q_pl_h211]
theorem al_outs_s {X : Int → Int} {LX : Nat} : ∀ S ∈ al_outs, ck_Ok qL_O X LX 222 S := ck_S1 zL_pl_h209 (ck_S1 zL_pl_h210 (ck_S1 q_pl_h211_s ck_S0))
theorem al_outs_c : al_outs.all (fun S => w_k qL_O 246 1 1 true S && w_r true S) = true := by decide +kernel
theorem al_outs_v : bc_cov 60 [(-2147483648, 2147483647)] (al_outs.map bc_box) = true := by decide +kernel
theorem zR_p2_s1607 {X : Int → Int} {LX : Nat} : ck_Ok qR_O X LX 361 p2_s1607 := qR_l p2_s1607_s (by decide +kernel)
theorem zR_p2_s1608 {X : Int → Int} {LX : Nat} : ck_Ok qR_O X LX 361 p2_s1608 := qR_l p2_s1608_s (by decide +kernel)
noncomputable def am_outs : List ck_Sum := [p2_s1607, p2_s1608, q_p2_s1609]
theorem am_outs_s {X : Int → Int} {LX : Nat} : ∀ S ∈ am_outs, ck_Ok qR_O X LX 361 S := ck_S1 zR_p2_s1607 (ck_S1 zR_p2_s1608 (ck_S1 q_p2_s1609_s ck_S0))
theorem am_outs_c : am_outs.all (fun S => w_kR S && w_r true S) = true := by decide +kernel
theorem am_outs_v : bc_cov 60 [(-2147483648, 2147483647)] (am_outs.map bc_box) = true := by decide +kernel
noncomputable def ax_order : List ck_Sum := [q_p2_s1611]
theorem ax_order_s {X : Int → Int} {LX : Nat} : ∀ S ∈ ax_order, ck_Ok q0_O X LX 52 S := ck_S1 q_p2_s1611_s ck_S0
theorem ax_order_c : ax_order.all (fun S => w_k q0_O 0 0 1 false S && w_r true S) = true := by decide +kernel
theorem ax_order_v : bc_cov 60 [(-2147483648, 2147483647)] (ax_order.map bc_box) = true := by decide +kernel
noncomputable def al_order : List ck_Sum := [q_pl_s852]
theorem al_order_s {X : Int → Int} {LX : Nat} : ∀ S ∈ al_order, ck_Ok qL_O X LX 52 S := ck_S1 q_pl_s852_s ck_S0
theorem al_order_c : al_order.all (fun S => w_k qL_O 246 1 1 false S && w_r true S) = true := by decide +kernel
theorem al_order_v : bc_cov 60 [(-2147483648, 2147483647)] (al_order.map bc_box) = true := by decide +kernel
noncomputable def am_order : List ck_Sum := [q_p2_s1612]
theorem am_order_s {X : Int → Int} {LX : Nat} : ∀ S ∈ am_order, ck_Ok qR_O X LX 362 S := ck_S1 q_p2_s1612_s ck_S0
theorem am_order_c : am_order.all (fun S => w_kR S && w_r true S) = true := by decide +kernel
theorem am_order_v : bc_cov 60 [(-2147483648, 2147483647)] (am_order.map bc_box) = true := by decide +kernel
theorem z0_p2_h212 {X : Int → Int} {LX : Nat} : ck_Ok q0_O X LX 224 p2_h212 := q0_l p2_h212_s (by decide +kernel)
theorem z0_p2_h213 {X : Int → Int} {LX : Nat} : ck_Ok q0_O X LX 224 p2_h213 := q0_l p2_h213_s (by decide +kernel)
noncomputable def ax_streams : List ck_Sum := [p2_h212, p2_h213, q_p2_h214]
theorem ax_streams_s {X : Int → Int} {LX : Nat} : ∀ S ∈ ax_streams, ck_Ok q0_O X LX 224 S := ck_S1 z0_p2_h212 (ck_S1 z0_p2_h213 (ck_S1 q_p2_h214_s ck_S0))
theorem ax_streams_c : ax_streams.all (fun S => w_k q0_O 0 0 1 true S && w_r true S) = true := by decide +kernel
theorem ax_streams_v : bc_cov 60 [(-2147483648, 2147483647), (0, 1)] (ax_streams.map bc_box) = true := by decide +kernel
theorem zL_pl_h212 {X : Int → Int} {LX : Nat} : ck_Ok qL_O X LX 224 pl_h212 := qL_l pl_h212_s (by decide +kernel)
theorem zL_pl_h213 {X : Int → Int} {LX : Nat} : ck_Ok qL_O X LX 224 pl_h213 := qL_l pl_h213_s (by decide +kernel)
noncomputable def al_streams : List ck_Sum := [pl_h212, pl_h213, q_pl_h214]
theorem al_streams_s {X : Int → Int} {LX : Nat} : ∀ S ∈ al_streams, ck_Ok qL_O X LX 224 S := ck_S1 zL_pl_h212 (ck_S1 zL_pl_h213 (ck_S1 q_pl_h214_s ck_S0))
theorem al_streams_c : al_streams.all (fun S => w_k qL_O 246 1 1 true S && w_r true S) = true := by decide +kernel
theorem al_streams_v : bc_cov 60 [(-2147483648, 2147483647), (0, 1)] (al_streams.map bc_box) = true := by decide +kernel
theorem zR_p2_s1616 {X : Int → Int} {LX : Nat} : ck_Ok qR_O X LX 363 p2_s1616 := qR_l p2_s1616_s (by decide +kernel)
theorem zR_p2_s1617 {X : Int → Int} {LX : Nat} : ck_Ok qR_O X LX 363 p2_s1617 := qR_l p2_s1617_s (by decide +kernel)
noncomputable def am_streams : List ck_Sum := [p2_s1616, p2_s1617, q_p2_s1618]
theorem am_streams_s {X : Int → Int} {LX : Nat} : ∀ S ∈ am_streams, ck_Ok qR_O X LX 363 S := ck_S1 zR_p2_s1616 (ck_S1 zR_p2_s1617 (ck_S1 q_p2_s1618_s ck_S0))
theorem am_streams_c : am_streams.all (fun S => w_kR S && w_r true S) = true := by decide +kernel
theorem am_streams_v : bc_cov 60 [(-2147483648, 2147483647), (0, 1)] (am_streams.map bc_box) = true := by decide +kernel
theorem z0_p2_h215 {X : Int → Int} {LX : Nat} : ck_Ok q0_O X LX 226 p2_h215 := q0_l p2_h215_s (by decide +kernel)
theorem z0_p2_h216 {X : Int → Int} {LX : Nat} : ck_Ok q0_O X LX 226 p2_h216 := q0_l p2_h216_s (by decide +kernel)
theorem z0_p2_h217 {X : Int → Int} {LX : Nat} : ck_Ok q0_O X LX 226 p2_h217 := q0_l p2_h217_s (by decide +kernel)
theorem z0_p2_h218 {X : Int → Int} {LX : Nat} : ck_Ok q0_O X LX 226 p2_h218 := q0_l p2_h218_s (by decide +kernel)
theorem z0_p2_h219 {X : Int → Int} {LX : Nat} : ck_Ok q0_O X LX 226 p2_h219 := q0_l p2_h219_s (by decide +kernel)
noncomputable def ax_range : List ck_Sum := [p2_h215, p2_h216, p2_h217, p2_h218, p2_h219]
theorem ax_range_s {X : Int → Int} {LX : Nat} : ∀ S ∈ ax_range, ck_Ok q0_O X LX 226 S := ck_S1 z0_p2_h215 (ck_S1 z0_p2_h216 (ck_S1 z0_p2_h217 (ck_S1 z0_p2_h218 (ck_S1 z0_p2_h219 ck_S0))))
theorem ax_range_c : ax_range.all (fun S => w_k q0_O 0 0 1 true S && w_r true S) = true := by decide +kernel
theorem ax_range_v : bc_cov 60 [(-2147483648, 2147483647), (-2147483648, 2147483647)] (ax_range.map bc_box) = true := by decide +kernel
theorem zL_pl_h215 {X : Int → Int} {LX : Nat} : ck_Ok qL_O X LX 226 pl_h215 := qL_l pl_h215_s (by decide +kernel)
theorem zL_pl_h216 {X : Int → Int} {LX : Nat} : ck_Ok qL_O X LX 226 pl_h216 := qL_l pl_h216_s (by decide +kernel)
theorem zL_pl_h217 {X : Int → Int} {LX : Nat} : ck_Ok qL_O X LX 226 pl_h217 := qL_l pl_h217_s (by decide +kernel)
theorem zL_pl_h218 {X : Int → Int} {LX : Nat} : ck_Ok qL_O X LX 226 pl_h218 := qL_l pl_h218_s (by decide +kernel)
noncomputable def al_range : List ck_Sum := [pl_h215, pl_h216, pl_h217, pl_h218, q_pl_h219]
theorem al_range_s {X : Int → Int} {LX : Nat} : ∀ S ∈ al_range, ck_Ok qL_O X LX 226 S := ck_S1 zL_pl_h215 (ck_S1 zL_pl_h216 (ck_S1 zL_pl_h217 (ck_S1 zL_pl_h218 (ck_S1 q_pl_h219_s ck_S0))))
theorem al_range_c : al_range.all (fun S => w_k qL_O 246 1 1 true S && w_r true S) = true := by decide +kernel
theorem al_range_v : bc_cov 60 [(-2147483648, 2147483647), (-2147483648, 2147483647)] (al_range.map bc_box) = true := by decide +kernel
theorem zR_p2_s1624 {X : Int → Int} {LX : Nat} : ck_Ok qR_O X LX 364 p2_s1624 := qR_l p2_s1624_s (by decide +kernel)
theorem zR_p2_s1625 {X : Int → Int} {LX : Nat} : ck_Ok qR_O X LX 364 p2_s1625 := qR_l p2_s1625_s (by decide +kernel)
theorem zR_p2_s1626 {X : Int → Int} {LX : Nat} : ck_Ok qR_O X LX 364 p2_s1626 := qR_l p2_s1626_s (by decide +kernel)
theorem zR_p2_s1627 {X : Int → Int} {LX : Nat} : ck_Ok qR_O X LX 364 p2_s1627 := qR_l p2_s1627_s (by decide +kernel)
noncomputable def am_range : List ck_Sum := [p2_s1624, p2_s1625, p2_s1626, p2_s1627, q_p2_s1628]
theorem am_range_s {X : Int → Int} {LX : Nat} : ∀ S ∈ am_range, ck_Ok qR_O X LX 364 S := ck_S1 zR_p2_s1624 (ck_S1 zR_p2_s1625 (ck_S1 zR_p2_s1626 (ck_S1 zR_p2_s1627 (ck_S1 q_p2_s1628_s ck_S0))))
theorem am_range_c : am_range.all (fun S => w_kR S && w_r true S) = true := by decide +kernel
theorem am_range_v : bc_cov 60 [(-2147483648, 2147483647), (-2147483648, 2147483647)] (am_range.map bc_box) = true := by decide +kernel
theorem z0_p2_h220 {X : Int → Int} {LX : Nat} : ck_Ok q0_O X LX 228 p2_h220 := q0_l p2_h220_s (by decide +kernel)
theorem z0_p2_h221 {X : Int → Int} {LX : Nat} : ck_Ok q0_O X LX 228 p2_h221 := q0_l p2_h221_s (by decide +kernel)
theorem z0_p2_h222 {X : Int → Int} {LX : Nat} : ck_Ok q0_O X LX 228 p2_h222 := q0_l p2_h222_s (by decide +kernel)
theorem z0_p2_h223 {X : Int → Int} {LX : Nat} : ck_Ok q0_O X LX 228 p2_h223 := q0_l p2_h223_s (by decide +kernel)
theorem z0_p2_h224 {X : Int → Int} {LX : Nat} : ck_Ok q0_O X LX 228 p2_h224 := q0_l p2_h224_s (by decide +kernel)
noncomputable def ax_swiftest : List ck_Sum := [p2_h220, p2_h221, p2_h222, p2_h223, p2_h224]
theorem ax_swiftest_s {X : Int → Int} {LX : Nat} : ∀ S ∈ ax_swiftest, ck_Ok q0_O X LX 228 S := ck_S1 z0_p2_h220 (ck_S1 z0_p2_h221 (ck_S1 z0_p2_h222 (ck_S1 z0_p2_h223 (ck_S1 z0_p2_h224 ck_S0))))
theorem ax_swiftest_c : ax_swiftest.all (fun S => w_k q0_O 0 0 1 true S && w_r true S) = true := by decide +kernel
theorem ax_swiftest_v : bc_cov 60 [(-2147483648, 2147483647), (-2147483648, 2147483647)] (ax_swiftest.map bc_box) = true := by decide +kernel
theorem zL_pl_h220 {X : Int → Int} {LX : Nat} : ck_Ok qL_O X LX 228 pl_h220 := qL_l pl_h220_s (by decide +kernel)
theorem zL_pl_h221 {X : Int → Int} {LX : Nat} : ck_Ok qL_O X LX 228 pl_h221 := qL_l pl_h221_s (by decide +kernel)
theorem zL_pl_h222 {X : Int → Int} {LX : Nat} : ck_Ok qL_O X LX 228 pl_h222 := qL_l pl_h222_s (by decide +kernel)
theorem zL_pl_h223 {X : Int → Int} {LX : Nat} : ck_Ok qL_O X LX 228 pl_h223 := qL_l pl_h223_s (by decide +kernel)
noncomputable def al_swiftest : List ck_Sum := [pl_h220, pl_h221, pl_h222, pl_h223, q_pl_h224]
theorem al_swiftest_s {X : Int → Int} {LX : Nat} : ∀ S ∈ al_swiftest, ck_Ok qL_O X LX 228 S := ck_S1 zL_pl_h220 (ck_S1 zL_pl_h221 (ck_S1 zL_pl_h222 (ck_S1 zL_pl_h223 (ck_S1 q_pl_h224_s ck_S0))))
theorem al_swiftest_c : al_swiftest.all (fun S => w_k qL_O 246 1 1 true S && w_r true S) = true := by decide +kernel
theorem al_swiftest_v : bc_cov 60 [(-2147483648, 2147483647), (-2147483648, 2147483647)] (al_swiftest.map bc_box) = true := by decide +kernel
theorem zR_p2_s1634 {X : Int → Int} {LX : Nat} : ck_Ok qR_O X LX 365 p2_s1634 := qR_l p2_s1634_s (by decide +kernel)
theorem zR_p2_s1635 {X : Int → Int} {LX : Nat} : ck_Ok qR_O X LX 365 p2_s1635 := qR_l p2_s1635_s (by decide +kernel)
theorem zR_p2_s1636 {X : Int → Int} {LX : Nat} : ck_Ok qR_O X LX 365 p2_s1636 := qR_l p2_s1636_s (by decide +kernel)
theorem zR_p2_s1637 {X : Int → Int} {LX : Nat} : ck_Ok qR_O X LX 365 p2_s1637 := qR_l p2_s1637_s (by decide +kernel)
noncomputable def am_swiftest : List ck_Sum := [p2_s1634, p2_s1635, p2_s1636, p2_s1637, q_p2_s1638]
theorem am_swiftest_s {X : Int → Int} {LX : Nat} : ∀ S ∈ am_swiftest, ck_Ok qR_O X LX 365 S := ck_S1 zR_p2_s1634 (ck_S1 zR_p2_s1635 (ck_S1 zR_p2_s1636 (ck_S1 zR_p2_s1637 (ck_S1 q_p2_s1638_s ck_S0))))
theorem am_swiftest_c : am_swiftest.all (fun S => w_kR S && w_r true S) = true := by decide +kernel
theorem am_swiftest_v : bc_cov 60 [(-2147483648, 2147483647), (-2147483648, 2147483647)] (am_swiftest.map bc_box) = true := by decide +kernel
theorem z0_p2_h225 {X : Int → Int} {LX : Nat} : ck_Ok q0_O X LX 230 p2_h225 := q0_l p2_h225_s (by decide +kernel)
theorem z0_p2_h226 {X : Int → Int} {LX : Nat} : ck_Ok q0_O X LX 230 p2_h226 := q0_l p2_h226_s (by decide +kernel)
theorem z0_p2_h227 {X : Int → Int} {LX : Nat} : ck_Ok q0_O X LX 230 p2_h227 := q0_l p2_h227_s (by decide +kernel)
noncomputable def ax_bare : List ck_Sum := [p2_h225, p2_h226, p2_h227]
theorem ax_bare_s {X : Int → Int} {LX : Nat} : ∀ S ∈ ax_bare, ck_Ok q0_O X LX 230 S := ck_S1 z0_p2_h225 (ck_S1 z0_p2_h226 (ck_S1 z0_p2_h227 ck_S0))
theorem ax_bare_c : ax_bare.all (fun S => w_k q0_O 0 0 1 true S && w_r true S) = true := by decide +kernel
theorem ax_bare_v : bc_cov 60 [(-2147483648, 2147483647)] (ax_bare.map bc_box) = true := by decide +kernel
theorem zL_pl_h225 {X : Int → Int} {LX : Nat} : ck_Ok qL_O X LX 230 pl_h225 := qL_l pl_h225_s (by decide +kernel)
theorem zL_pl_h226 {X : Int → Int} {LX : Nat} : ck_Ok qL_O X LX 230 pl_h226 := qL_l pl_h226_s (by decide +kernel)
noncomputable def al_bare : List ck_Sum := [pl_h225, pl_h226, q_pl_h227]
theorem al_bare_s {X : Int → Int} {LX : Nat} : ∀ S ∈ al_bare, ck_Ok qL_O X LX 230 S := ck_S1 zL_pl_h225 (ck_S1 zL_pl_h226 (ck_S1 q_pl_h227_s ck_S0))
theorem al_bare_c : al_bare.all (fun S => w_k qL_O 246 1 1 true S && w_r true S) = true := by decide +kernel
theorem al_bare_v : bc_cov 60 [(-2147483648, 2147483647)] (al_bare.map bc_box) = true := by decide +kernel
theorem zR_p2_s1642 {X : Int → Int} {LX : Nat} : ck_Ok qR_O X LX 366 p2_s1642 := qR_l p2_s1642_s (by decide +kernel)
theorem zR_p2_s1643 {X : Int → Int} {LX : Nat} : ck_Ok qR_O X LX 366 p2_s1643 := qR_l p2_s1643_s (by decide +kernel)
noncomputable def am_bare : List ck_Sum := [p2_s1642, p2_s1643, q_p2_s1644]
theorem am_bare_s {X : Int → Int} {LX : Nat} : ∀ S ∈ am_bare, ck_Ok qR_O X LX 366 S := ck_S1 zR_p2_s1642 (ck_S1 zR_p2_s1643 (ck_S1 q_p2_s1644_s ck_S0))
theorem am_bare_c : am_bare.all (fun S => w_kR S && w_r true S) = true := by decide +kernel
theorem am_bare_v : bc_cov 60 [(-2147483648, 2147483647)] (am_bare.map bc_box) = true := by decide +kernel
theorem z0_p2_h228 {X : Int → Int} {LX : Nat} : ck_Ok q0_O X LX 232 p2_h228 := q0_l p2_h228_s (by decide +kernel)
theorem z0_p2_h229 {X : Int → Int} {LX : Nat} : ck_Ok q0_O X LX 232 p2_h229 := q0_l p2_h229_s (by decide +kernel)
theorem z0_p2_h230 {X : Int → Int} {LX : Nat} : ck_Ok q0_O X LX 232 p2_h230 := q0_l p2_h230_s (by decide +kernel)
theorem z0_p2_h231 {X : Int → Int} {LX : Nat} : ck_Ok q0_O X LX 232 p2_h231 := q0_l p2_h231_s (by decide +kernel)
theorem z0_p2_h232 {X : Int → Int} {LX : Nat} : ck_Ok q0_O X LX 232 p2_h232 := q0_l p2_h232_s (by decide +kernel)
noncomputable def ax_log : List ck_Sum := [p2_h228, p2_h229, p2_h230, p2_h231, p2_h232]
theorem ax_log_s {X : Int → Int} {LX : Nat} : ∀ S ∈ ax_log, ck_Ok q0_O X LX 232 S := ck_S1 z0_p2_h228 (ck_S1 z0_p2_h229 (ck_S1 z0_p2_h230 (ck_S1 z0_p2_h231 (ck_S1 z0_p2_h232 ck_S0))))
theorem ax_log_c : ax_log.all (fun S => w_k q0_O 0 0 1 true S && w_r true S) = true := by decide +kernel
theorem ax_log_v : bc_cov 60 [(-2147483648, 2147483647), (-2147483648, 2147483647)] (ax_log.map bc_box) = true := by decide +kernel
theorem zL_pl_h228 {X : Int → Int} {LX : Nat} : ck_Ok qL_O X LX 232 pl_h228 := qL_l pl_h228_s (by decide +kernel)
theorem zL_pl_h229 {X : Int → Int} {LX : Nat} : ck_Ok qL_O X LX 232 pl_h229 := qL_l pl_h229_s (by decide +kernel)
theorem zL_pl_h230 {X : Int → Int} {LX : Nat} : ck_Ok qL_O X LX 232 pl_h230 := qL_l pl_h230_s (by decide +kernel)
theorem zL_pl_h231 {X : Int → Int} {LX : Nat} : ck_Ok qL_O X LX 232 pl_h231 := qL_l pl_h231_s (by decide +kernel)
theorem zL_pl_h232 {X : Int → Int} {LX : Nat} : ck_Ok qL_O X LX 232 pl_h232 := qL_l pl_h232_s (by decide +kernel)
noncomputable def al_log : List ck_Sum := [pl_h228, pl_h229, pl_h230, pl_h231, pl_h232]
theorem al_log_s {X : Int → Int} {LX : Nat} : ∀ S ∈ al_log, ck_Ok qL_O X LX 232 S := ck_S1 zL_pl_h228 (ck_S1 zL_pl_h229 (ck_S1 zL_pl_h230 (ck_S1 zL_pl_h231 (ck_S1 zL_pl_h232 ck_S0))))
theorem al_log_c : al_log.all (fun S => w_k qL_O 246 1 1 true S && w_r true S) = true := by decide +kernel
theorem al_log_v : bc_cov 60 [(-2147483648, 2147483647), (-2147483648, 2147483647)] (al_log.map bc_box) = true := by decide +kernel
theorem zR_p2_s1652 {X : Int → Int} {LX : Nat} : ck_Ok qR_O X LX 367 p2_s1652 := qR_l p2_s1652_s (by decide +kernel)
theorem zR_p2_s1653 {X : Int → Int} {LX : Nat} : ck_Ok qR_O X LX 367 p2_s1653 := qR_l p2_s1653_s (by decide +kernel)
theorem zR_p2_s1654 {X : Int → Int} {LX : Nat} : ck_Ok qR_O X LX 367 p2_s1654 := qR_l p2_s1654_s (by decide +kernel)
theorem zR_p2_s1655 {X : Int → Int} {LX : Nat} : ck_Ok qR_O X LX 367 p2_s1655 := qR_l p2_s1655_s (by decide +kernel)
theorem zR_p2_s1656 {X : Int → Int} {LX : Nat} : ck_Ok qR_O X LX 367 p2_s1656 := qR_l p2_s1656_s (by decide +kernel)
noncomputable def am_log : List ck_Sum := [p2_s1652, p2_s1653, p2_s1654, p2_s1655, p2_s1656]
theorem am_log_s {X : Int → Int} {LX : Nat} : ∀ S ∈ am_log, ck_Ok qR_O X LX 367 S := ck_S1 zR_p2_s1652 (ck_S1 zR_p2_s1653 (ck_S1 zR_p2_s1654 (ck_S1 zR_p2_s1655 (ck_S1 zR_p2_s1656 ck_S0))))
theorem am_log_c : am_log.all (fun S => w_kR S && w_r true S) = true := by decide +kernel
theorem am_log_v : bc_cov 60 [(-2147483648, 2147483647), (-2147483648, 2147483647)] (am_log.map bc_box) = true := by decide +kernel
noncomputable def ax_undo : List ck_Sum := [p2_s1743]
theorem ax_undo_s {X : Int → Int} {LX : Nat} : ∀ S ∈ ax_undo, ck_Ok p2_O X LX 54 S := ck_S1 p2_s1743_s ck_S0
theorem ax_undo_c : ax_undo.all (w_x p2_O 0 0 1 false) = true := by decide +kernel
theorem ax_undo_v : bc_cov 60 [] (ax_undo.map bc_box) = true := by decide +kernel
noncomputable def al_undo : List ck_Sum := [pl_s961]
theorem al_undo_s {X : Int → Int} {LX : Nat} : ∀ S ∈ al_undo, ck_Ok p2_OL X LX 54 S := ck_S1 pl_s961_s ck_S0
theorem al_undo_c : al_undo.all (w_x p2_OL 246 1 1 false) = true := by decide +kernel
theorem al_undo_v : bc_cov 60 [] (al_undo.map bc_box) = true := by decide +kernel
noncomputable def am_undo : List ck_Sum := [p2_s1744]
theorem am_undo_s {X : Int → Int} {LX : Nat} : ∀ S ∈ am_undo, ck_Ok p2_O X LX 238 S := ck_S1 p2_s1744_s ck_S0
theorem am_undo_c : am_undo.all (w_m) = true := by decide +kernel
theorem am_undo_v : bc_cov 60 [] (am_undo.map bc_box) = true := by decide +kernel
noncomputable def ax_image : List ck_Sum := [p2_s1752]
theorem ax_image_s {X : Int → Int} {LX : Nat} : ∀ S ∈ ax_image, ck_Ok p2_O X LX 59 S := ck_S1 p2_s1752_s ck_S0
theorem ax_image_c : ax_image.all (w_x p2_O 0 0 1 false) = true := by decide +kernel
theorem ax_image_v : bc_cov 60 [] (ax_image.map bc_box) = true := by decide +kernel
noncomputable def al_image : List ck_Sum := [pl_s969]
theorem al_image_s {X : Int → Int} {LX : Nat} : ∀ S ∈ al_image, ck_Ok p2_OL X LX 59 S := ck_S1 pl_s969_s ck_S0
theorem al_image_c : al_image.all (w_x p2_OL 246 1 1 false) = true := by decide +kernel
theorem al_image_v : bc_cov 60 [] (al_image.map bc_box) = true := by decide +kernel
noncomputable def am_image : List ck_Sum := [p2_s1753]
theorem am_image_s {X : Int → Int} {LX : Nat} : ∀ S ∈ am_image, ck_Ok p2_O X LX 236 S := ck_S1 p2_s1753_s ck_S0
theorem am_image_c : am_image.all (w_m) = true := by decide +kernel
theorem am_image_v : bc_cov 60 [] (am_image.map bc_box) = true := by decide +kernel
noncomputable def ax_back : List ck_Sum := [p2_s1761]
theorem ax_back_s {X : Int → Int} {LX : Nat} : ∀ S ∈ ax_back, ck_Ok p2_O X LX 60 S := ck_S1 p2_s1761_s ck_S0
theorem ax_back_c : ax_back.all (w_x p2_O 0 0 1 false) = true := by decide +kernel
theorem ax_back_v : bc_cov 60 [] (ax_back.map bc_box) = true := by decide +kernel
noncomputable def al_back : List ck_Sum := [pl_s977]
theorem al_back_s {X : Int → Int} {LX : Nat} : ∀ S ∈ al_back, ck_Ok p2_OL X LX 60 S := ck_S1 pl_s977_s ck_S0
theorem al_back_c : al_back.all (w_x p2_OL 246 1 1 false) = true := by decide +kernel
theorem al_back_v : bc_cov 60 [] (al_back.map bc_box) = true := by decide +kernel
noncomputable def am_back : List ck_Sum := [p2_s1762]
theorem am_back_s {X : Int → Int} {LX : Nat} : ∀ S ∈ am_back, ck_Ok p2_O X LX 237 S := ck_S1 p2_s1762_s ck_S0
theorem am_back_c : am_back.all (w_m) = true := by decide +kernel
theorem am_back_v : bc_cov 60 [] (am_back.map bc_box) = true := by decide +kernel
theorem z0_p2_s1763 {X : Int → Int} {LX : Nat} : ck_Ok q0_O X LX 63 p2_s1763 := q0_l p2_s1763_s (by decide +kernel)
theorem z0_p2_s1770 {X : Int → Int} {LX : Nat} : ck_Ok q0_O X LX 63 p2_s1770 := q0_l p2_s1770_s (by decide +kernel)
noncomputable def ax_count : List ck_Sum := [p2_s1763, q_p2_s1768, p2_s1770]
theorem ax_count_s {X : Int → Int} {LX : Nat} : ∀ S ∈ ax_count, ck_Ok q0_O X LX 63 S := ck_S1 z0_p2_s1763 (ck_S1 q_p2_s1768_s (ck_S1 z0_p2_s1770 ck_S0))
theorem ax_count_c : ax_count.all (fun S => w_k q0_O 0 0 1 false S && w_r true S) = true := by decide +kernel
theorem ax_count_v : bc_cov 60 [(-2147483648, 2147483647)] (ax_count.map bc_box) = true := by decide +kernel
theorem zL_pl_s978 {X : Int → Int} {LX : Nat} : ck_Ok qL_O X LX 63 pl_s978 := qL_l pl_s978_s (by decide +kernel)
theorem zL_pl_s985 {X : Int → Int} {LX : Nat} : ck_Ok qL_O X LX 63 pl_s985 := qL_l pl_s985_s (by decide +kernel)
noncomputable def al_count : List ck_Sum := [pl_s978, q_pl_s983, pl_s985]
theorem al_count_s {X : Int → Int} {LX : Nat} : ∀ S ∈ al_count, ck_Ok qL_O X LX 63 S := ck_S1 zL_pl_s978 (ck_S1 q_pl_s983_s (ck_S1 zL_pl_s985 ck_S0))
theorem al_count_c : al_count.all (fun S => w_k qL_O 246 1 1 false S && w_r true S) = true := by decide +kernel
theorem al_count_v : bc_cov 60 [(-2147483648, 2147483647)] (al_count.map bc_box) = true := by decide +kernel
theorem zR_p2_s1772 {X : Int → Int} {LX : Nat} : ck_Ok qR_O X LX 368 p2_s1772 := qR_l p2_s1772_s (by decide +kernel)
theorem zR_p2_s1781 {X : Int → Int} {LX : Nat} : ck_Ok qR_O X LX 368 p2_s1781 := qR_l p2_s1781_s (by decide +kernel)
noncomputable def am_count : List ck_Sum := [p2_s1772, q_p2_s1778, p2_s1781]
theorem am_count_s {X : Int → Int} {LX : Nat} : ∀ S ∈ am_count, ck_Ok qR_O X LX 368 S := ck_S1 zR_p2_s1772 (ck_S1 q_p2_s1778_s (ck_S1 zR_p2_s1781 ck_S0))
theorem am_count_c : am_count.all (fun S => w_kR S && w_r true S) = true := by decide +kernel
theorem am_count_v : bc_cov 60 [(-2147483648, 2147483647)] (am_count.map bc_box) = true := by decide +kernel
end
/-! 7d01.mc -/
section
/-! THE LAW'S CASES, told of class and reference (laid by wip/rel/gq.py). -/
noncomputable def fa (X : Int → Int) (i : Int) : Int → Int := fun z => if z = 0 then X (i + 1) else if z = 1 then X (i + 2) else if z = 2 then X (i + 3) else if z = 3 then X (i + 4) else X (i + 5)
theorem fa_ir {X : Int → Int} (hX : ∀ j, gm_ir (X j)) {i z : Int} : gm_ir (fa X i z) := by
  unfold fa
  split
  · exact hX _
  · split
    · exact hX _
    · split
      · exact hX _
      · split
        · exact hX _
        · exact hX _
/-- what comes behind a case -/
noncomputable def mn_R (X : Int → Int) (LX bc bs : Nat) (i : Int) (g : Nat) (Q : gm_Q) : Prop := ∀ (g' : Nat) (la' : Nat → Nat) (K2 : gm_K) (R2 : gm_R) (M2 : gm_M) (L2 : gm_L), bg g' la' K2 R2 M2 → g' ≤ g + 2 → RELW la' K2 M2 → mn_L i L2 → gm_Wp X LX 280 (bc - 12) (bs - 1200) 370 1993 L2 [] (245 + 4 * g') K2 R2 M2 Q
theorem am_deep_c2 : am_deep.all (fun S => w_kR S && (w_r true S && bc_keep S 245 0)) = true := by decide +kernel
section MCC
variable {X : Int → Int} {LX g bc bs : Nat} {i : Int} {la : Nat → Nat} {K : gm_K} {R : gm_R} {M : gm_M} {Q : gm_Q} {L : gm_L}
theorem mc_0 (hb : bg g la K R M) (hg : g < 9990) (hM : RELW la K M) (hL : mn_L i L) (hi : 0 ≤ i ∧ i + 6 ≤ (LX : Int)) (hLX : LX ≤ 3072) (hX : ∀ j, gm_ir (X j)) (hbc : 12 ≤ bc) (hbs : 1200 ≤ bs) (rest : mn_R X LX bc bs i g Q) : gm_Wp X LX 280 bc bs 370 244 L [] (245 + 4 * g) K R M Q := by
  obtain ⟨N, lw, A, im, t, w, f, hM⟩ := hM
  refine gm_sz (gm_p_load (pc := 244) (i := .aload_n 1) (sr := 2) (j := 1) (by decide +kernel) rfl hL.2.2.1 rfl) ?_
  refine mn_arg (pc := 245) (j := 1) (by decide +kernel) (by decide +kernel) (by decide +kernel) (by decide +kernel) (by decide +kernel) hL hi (by decide) hLX ?_
  refine mn_arg (pc := 251) (j := 2) (by decide +kernel) (by decide +kernel) (by decide +kernel) (by decide +kernel) (by decide +kernel) hL hi (by decide) hLX ?_
  refine mn_arg (pc := 257) (j := 3) (by decide +kernel) (by decide +kernel) (by decide +kernel) (by decide +kernel) (by decide +kernel) hL hi (by decide) hLX ?_
  refine mn_arg (pc := 263) (j := 4) (by decide +kernel) (by decide +kernel) (by decide +kernel) (by decide +kernel) (by decide +kernel) hL hi (by decide) hLX ?_
  refine mn_arg (pc := 269) (j := 5) (by decide +kernel) (by decide +kernel) (by decide +kernel) (by decide +kernel) (by decide +kernel) hL hi (by decide) hLX ?_
  show gm_Wp X LX 280 _ _ 370 275 L (gm_vi (fa X i 4) :: gm_vi (fa X i 3) :: gm_vi (fa X i 2) :: gm_vi (fa X i 1) :: gm_vi (fa X i 0) :: gm_vr 1 :: []) (245 + 4 * g) _ _ _ Q
  refine ow_feed (pc := 275) (ix := 139) (st := []) hb (by omega) hM (by decide +kernel) (by decide +kernel) (Nat.le_of_ble_eq_true rfl) ax_feed_s al_feed_s ax_feed_c al_feed_c ax_feed_v al_feed_v (bc_in1 (mn_w (fa_ir hX)) (bc_in1 (mn_w (fa_ir hX)) (bc_in1 (mn_w (fa_ir hX)) (bc_in1 (mn_w (fa_ir hX)) (bc_in1 (mn_w (fa_ir hX)) bc_in0))))) (fun j => fa_ir hX) (by omega) (by omega) ?_
  intro la1 K1 R1 M1 hb1 hM1 hv1
  show gm_Wp X LX 280 _ _ 370 278 L [gm_vi ((ap_feed (fa X i) t f).1)] (245 + 4 * g) K1 R1 M1 Q
  refine gm_sz (gm_p_pop (pc := 278) (by decide +kernel) (by simp [gm_sort])) ?_
  refine gm_sz (gm_p_load (pc := 279) (i := .aload_n 2) (sr := 2) (j := 2) (by decide +kernel) rfl hL.2.2.2.1 rfl) ?_
  refine mn_arg (pc := 280) (j := 1) (by decide +kernel) (by decide +kernel) (by decide +kernel) (by decide +kernel) (by decide +kernel) hL hi (by decide) hLX ?_
  refine mn_arg (pc := 286) (j := 2) (by decide +kernel) (by decide +kernel) (by decide +kernel) (by decide +kernel) (by decide +kernel) hL hi (by decide) hLX ?_
  refine mn_arg (pc := 292) (j := 3) (by decide +kernel) (by decide +kernel) (by decide +kernel) (by decide +kernel) (by decide +kernel) hL hi (by decide) hLX ?_
  refine mn_arg (pc := 298) (j := 4) (by decide +kernel) (by decide +kernel) (by decide +kernel) (by decide +kernel) (by decide +kernel) hL hi (by decide) hLX ?_
  refine mn_arg (pc := 304) (j := 5) (by decide +kernel) (by decide +kernel) (by decide +kernel) (by decide +kernel) (by decide +kernel) hL hi (by decide) hLX ?_
  show gm_Wp X LX 280 _ _ 370 310 L (gm_vi (fa X i 4) :: gm_vi (fa X i 3) :: gm_vi (fa X i 2) :: gm_vi (fa X i 1) :: gm_vi (fa X i 0) :: gm_vr 226 :: []) (245 + 4 * g) _ _ _ Q
  refine om_feed (pc := 310) (ix := 143) (st := []) hb1 (by omega) hM1 (by decide +kernel) (by decide +kernel) (Nat.le_of_ble_eq_true rfl) am_feed_s am_feed_c am_feed_v (bc_in1 (mn_w (fa_ir hX)) (bc_in1 (mn_w (fa_ir hX)) (bc_in1 (mn_w (fa_ir hX)) (bc_in1 (mn_w (fa_ir hX)) (bc_in1 (mn_w (fa_ir hX)) bc_in0))))) (fun j => fa_ir hX) (by omega) (by omega) ?_
  intro u2 la2 K2 R2 M2 hu2 hb2 hM2 h245 hth2
  have hu2 : u2 = some (gm_vi (ap_feed (fa X i) t f).1) := hu2
  subst hu2
  show gm_Wp X LX 280 _ _ 370 313 L [gm_vi ((ap_feed (fa X i) t f).1)] (245 + 4 * g) K2 R2 M2 Q
  refine gm_sz (gm_p_pop (pc := 313) (by decide +kernel) (by simp [gm_sort])) ?_
  refine gm_sz (gm_p_goto (pc := 314) (off := 1679) (by decide +kernel) (by decide)) ?_
  exact gm_Wp_wk (Nat.le_refl _) (by omega) (by omega) (rest g _ _ _ _ L hb2 (by omega) ⟨_, _, _, _, _, _, _, hM2⟩ hL)
theorem mc_1 (hb : bg g la K R M) (hg : g < 9990) (hM : RELW la K M) (hL : mn_L i L) (hi : 0 ≤ i ∧ i + 6 ≤ (LX : Int)) (hLX : LX ≤ 3072) (hX : ∀ j, gm_ir (X j)) (hbc : 12 ≤ bc) (hbs : 1200 ≤ bs) (rest : mn_R X LX bc bs i g Q) : gm_Wp X LX 280 bc bs 370 317 L [] (245 + 4 * g) K R M Q := by
  obtain ⟨N, lw, A, im, t, w, f, hM⟩ := hM
  refine gm_sz (gm_p_load (pc := 317) (i := .aload_n 1) (sr := 2) (j := 1) (by decide +kernel) rfl hL.2.2.1 rfl) ?_
  refine mn_arg (pc := 318) (j := 1) (by decide +kernel) (by decide +kernel) (by decide +kernel) (by decide +kernel) (by decide +kernel) hL hi (by decide) hLX ?_
  refine ow_end (pc := 324) (ix := 144) (st := []) hb hM (by decide +kernel) (by decide +kernel) (by decide +kernel) (Nat.le_of_ble_eq_true rfl) (hX _) ?_
  intro la1 K1 R1 M1 hb1 hM1 hv1
  show gm_Wp X LX 280 _ _ 370 327 L [gm_vi ((ap_end (X (i + 1)) t).1)] (245 + 4 * g) K1 R1 M1 Q
  refine gm_sz (gm_p_pop (pc := 327) (by decide +kernel) (by simp [gm_sort])) ?_
  refine gm_sz (gm_p_load (pc := 328) (i := .aload_n 2) (sr := 2) (j := 2) (by decide +kernel) rfl hL.2.2.2.1 rfl) ?_
  refine mn_arg (pc := 329) (j := 1) (by decide +kernel) (by decide +kernel) (by decide +kernel) (by decide +kernel) (by decide +kernel) hL hi (by decide) hLX ?_
  refine om_end (pc := 335) (ix := 148) (st := []) hb1 hM1 (by decide +kernel) (by decide +kernel) (by decide +kernel) (Nat.le_of_ble_eq_true rfl) (hX _) ?_
  intro u2 la2 K2 R2 M2 hu2 hb2 hM2 h245 hth2
  have hu2 : u2 = some (gm_vi (ap_end (X (i + 1)) t).1) := hu2
  subst hu2
  show gm_Wp X LX 280 _ _ 370 338 L [gm_vi ((ap_end (X (i + 1)) t).1)] (245 + 4 * g) K2 R2 M2 Q
  refine gm_sz (gm_p_pop (pc := 338) (by decide +kernel) (by simp [gm_sort])) ?_
  refine gm_sz (gm_p_goto (pc := 339) (off := 1654) (by decide +kernel) (by decide)) ?_
  exact gm_Wp_wk (Nat.le_refl _) (by omega) (by omega) (rest g _ _ _ _ L hb2 (by omega) ⟨_, _, _, _, _, _, _, hM2⟩ hL)
theorem mc_2 (hb : bg g la K R M) (hg : g < 9990) (hM : RELW la K M) (hL : mn_L i L) (hi : 0 ≤ i ∧ i + 6 ≤ (LX : Int)) (hLX : LX ≤ 3072) (hX : ∀ j, gm_ir (X j)) (hbc : 12 ≤ bc) (hbs : 1200 ≤ bs) (rest : mn_R X LX bc bs i g Q) : gm_Wp X LX 280 bc bs 370 342 L [] (245 + 4 * g) K R M Q := by
  obtain ⟨N, lw, A, im, t, w, f, hM⟩ := hM
  refine gm_sz (gm_p_load (pc := 342) (i := .aload_n 1) (sr := 2) (j := 1) (by decide +kernel) rfl hL.2.2.1 rfl) ?_
  refine gm_sz (gm_p_load (pc := 343) (i := .aload_n 3) (sr := 2) (j := 3) (by decide +kernel) rfl hL.2.2.2.2.1 rfl) ?_
  refine ow_valley (pc := 344) (ix := 149) (st := []) hb (by omega) hM (by decide +kernel) (by decide +kernel) (Nat.le_of_ble_eq_true rfl) ax_valley_s al_valley_s ax_valley_c al_valley_c ax_valley_v al_valley_v bc_in0 (by omega) (by omega) ?_
  intro la1 K1 R1 M1 hb1 hM1 hv1
  show gm_Wp X LX 280 _ _ 370 347 L [gm_vi ((ap_valley f t N A).1)] (245 + 4 * g) K1 R1 M1 Q
  refine gm_sz (gm_p_stor (pc := 347) (i := .istore 5) (sr := 0) (j := 5) (by decide +kernel) rfl (by show 5 + 0 < L.length; have := hL.1; omega) rfl) ?_
  have hL5 := mn_L_s (y := (ap_valley f t N A).1) hL (j := 5) (Or.inl rfl)
  have l55 := mn_l5 (y := (ap_valley f t N A).1) hL
  generalize gm_lst L 5 (gm_vi (ap_valley f t N A).1) = L5 at hL5 l55 ⊢
  refine gm_sz (gm_p_load (pc := 349) (i := .aload_n 2) (sr := 2) (j := 2) (by decide +kernel) rfl hL5.2.2.2.1 rfl) ?_
  refine om_valley (pc := 350) (ix := 154) (st := []) hb1 (by omega) hM1 (by decide +kernel) (by decide +kernel) (Nat.le_of_ble_eq_true rfl) am_valley_s am_valley_c am_valley_v bc_in0 (by omega) (by omega) ?_
  intro u2 la2 K2 R2 M2 hu2 hb2 hM2 h245 hth2
  obtain ⟨y2, rfl, hy2⟩ := hu2
  show gm_Wp X LX 280 _ _ 370 353 L5 [gm_vi y2] (245 + 4 * g) K2 R2 M2 Q
  refine gm_sz (gm_p_stor (pc := 353) (i := .istore 6) (sr := 0) (j := 6) (by decide +kernel) rfl (by show 6 + 0 < L5.length; have := hL5.1; omega) rfl) ?_
  have hL6 := mn_L_s (y := y2) hL5 (j := 6) (Or.inr rfl)
  have l66 := mn_l6 (y := y2) hL5
  have l65 := mn_l65 (y := y2) l55
  generalize gm_lst L5 6 (gm_vi y2) = L6 at hL6 l66 l65 ⊢
  refine gm_sz (gm_p_goto (pc := 355) (off := 1638) (by decide +kernel) (by decide)) ?_
  exact gm_Wp_wk (Nat.le_refl _) (by omega) (by omega) (rest g _ _ _ _ L6 hb2 (by omega) ⟨_, _, _, _, _, _, _, hM2⟩ hL6)
theorem mc_3 (hb : bg g la K R M) (hg : g < 9990) (hM : RELW la K M) (hL : mn_L i L) (hi : 0 ≤ i ∧ i + 6 ≤ (LX : Int)) (hLX : LX ≤ 3072) (hX : ∀ j, gm_ir (X j)) (hbc : 12 ≤ bc) (hbs : 1200 ≤ bs) (rest : mn_R X LX bc bs i g Q) : gm_Wp X LX 280 bc bs 370 358 L [] (245 + 4 * g) K R M Q := by
  obtain ⟨N, lw, A, im, t, w, f, hM⟩ := hM
  refine gm_sz (gm_p_load (pc := 358) (i := .aload_n 1) (sr := 2) (j := 1) (by decide +kernel) rfl hL.2.2.1 rfl) ?_
  refine gm_sz (gm_p_load (pc := 359) (i := .aload_n 3) (sr := 2) (j := 3) (by decide +kernel) rfl hL.2.2.2.2.1 rfl) ?_
  refine ow_law (pc := 360) (ix := 155) (st := []) hb (by omega) hM (by decide +kernel) (by decide +kernel) (Nat.le_of_ble_eq_true rfl) (by omega) (by omega) ?_
  intro g1 la1 K1 R1 M1 hg1 hb1 hM1 hv1
  show gm_Wp X LX 280 _ _ 370 363 L [gm_vi ((ap_law f t lw A).1)] (245 + 4 * g1) K1 R1 M1 Q
  refine gm_sz (gm_p_stor (pc := 363) (i := .istore 5) (sr := 0) (j := 5) (by decide +kernel) rfl (by show 5 + 0 < L.length; have := hL.1; omega) rfl) ?_
  have hL5 := mn_L_s (y := (ap_law f t lw A).1) hL (j := 5) (Or.inl rfl)
  have l55 := mn_l5 (y := (ap_law f t lw A).1) hL
  generalize gm_lst L 5 (gm_vi (ap_law f t lw A).1) = L5 at hL5 l55 ⊢
  refine gm_sz (gm_p_load (pc := 365) (i := .aload_n 2) (sr := 2) (j := 2) (by decide +kernel) rfl hL5.2.2.2.1 rfl) ?_
  refine om_law (pc := 366) (ix := 157) (st := []) hb1 (by omega) hM1 (by decide +kernel) (by decide +kernel) (Nat.le_of_ble_eq_true rfl) (by omega) (by omega) ?_
  intro u2 la2 K2 R2 M2 hu2 hb2 hM2 h245 hth2
  obtain ⟨y2, rfl, hy2⟩ := hu2
  show gm_Wp X LX 280 _ _ 370 369 L5 [gm_vi y2] (245 + 4 * g1) K2 R2 M2 Q
  refine gm_sz (gm_p_stor (pc := 369) (i := .istore 6) (sr := 0) (j := 6) (by decide +kernel) rfl (by show 6 + 0 < L5.length; have := hL5.1; omega) rfl) ?_
  have hL6 := mn_L_s (y := y2) hL5 (j := 6) (Or.inr rfl)
  have l66 := mn_l6 (y := y2) hL5
  have l65 := mn_l65 (y := y2) l55
  generalize gm_lst L5 6 (gm_vi y2) = L6 at hL6 l66 l65 ⊢
  refine gm_sz (gm_p_goto (pc := 371) (off := 1622) (by decide +kernel) (by decide)) ?_
  exact gm_Wp_wk (Nat.le_refl _) (by omega) (by omega) (rest g1 _ _ _ _ L6 hb2 (by omega) ⟨_, _, _, _, _, _, _, hM2⟩ hL6)
theorem mc_4 (hb : bg g la K R M) (hg : g < 9990) (hM : RELW la K M) (hL : mn_L i L) (hi : 0 ≤ i ∧ i + 6 ≤ (LX : Int)) (hLX : LX ≤ 3072) (hX : ∀ j, gm_ir (X j)) (hbc : 12 ≤ bc) (hbs : 1200 ≤ bs) (rest : mn_R X LX bc bs i g Q) : gm_Wp X LX 280 bc bs 370 374 L [] (245 + 4 * g) K R M Q := by
  obtain ⟨N, lw, A, im, t, w, f, hM⟩ := hM
  refine gm_sz (gm_p_load (pc := 374) (i := .aload_n 1) (sr := 2) (j := 1) (by decide +kernel) rfl hL.2.2.1 rfl) ?_
  refine rq_d (pc := 375) (ix := 158) (mj := 22) (xs := []) (st := []) (ds := []) (r := true) hb (by omega) hM (by decide +kernel) (by decide +kernel) (by decide +kernel) (by decide +kernel) (show 0 = gm_na 22 by decide +kernel) (show 1 ≤ gm_ml 22 by decide +kernel) (Nat.le_of_ble_eq_true rfl) ax_fault_s al_fault_s ax_fault_c al_fault_c ax_fault_v al_fault_v bc_in0 (fun _ h => nomatch h) (by omega) (by omega) ?_
  intro u1 la1 K1 R1 M1 hu1 hb1 hM1
  obtain ⟨y1, rfl⟩ : ∃ y, u1 = some (gm_vi y) := hu1
  show gm_Wp X LX 280 _ _ 370 378 L [gm_vi y1] (245 + 4 * g) K1 R1 M1 Q
  refine gm_sz (gm_p_pop (pc := 378) (by decide +kernel) (by simp [gm_sort])) ?_
  refine gm_sz (gm_p_load (pc := 379) (i := .aload_n 2) (sr := 2) (j := 2) (by decide +kernel) rfl hL.2.2.2.1 rfl) ?_
  refine rq_m (pc := 380) (ix := 161) (mj := 241) (xs := []) (st := []) (ds := []) (r := true) hb1 (by omega) hM1 (by decide +kernel) (by decide +kernel) (by decide +kernel) (by decide +kernel) (show 0 = gm_na 241 by decide +kernel) (show 1 ≤ gm_ml 241 by decide +kernel) (Nat.le_of_ble_eq_true rfl) am_fault_s am_fault_c am_fault_v bc_in0 (fun _ h => nomatch h) (by omega) (by omega) ?_
  intro u2 la2 K2 R2 M2 hu2 hb2 hM2
  obtain ⟨y2, rfl⟩ : ∃ y, u2 = some (gm_vi y) := hu2
  show gm_Wp X LX 280 _ _ 370 383 L [gm_vi y2] (245 + 4 * g) K2 R2 M2 Q
  refine gm_sz (gm_p_pop (pc := 383) (by decide +kernel) (by simp [gm_sort])) ?_
  refine gm_sz (gm_p_goto (pc := 384) (off := 1609) (by decide +kernel) (by decide)) ?_
  exact gm_Wp_wk (Nat.le_refl _) (by omega) (by omega) (rest g _ _ _ _ L hb2 (by omega) ⟨_, _, _, _, _, _, _, hM2⟩ hL)
theorem mc_5 (hb : bg g la K R M) (hg : g < 9990) (hM : RELW la K M) (hL : mn_L i L) (hi : 0 ≤ i ∧ i + 6 ≤ (LX : Int)) (hLX : LX ≤ 3072) (hX : ∀ j, gm_ir (X j)) (hbc : 12 ≤ bc) (hbs : 1200 ≤ bs) (rest : mn_R X LX bc bs i g Q) : gm_Wp X LX 280 bc bs 370 387 L [] (245 + 4 * g) K R M Q := by
  obtain ⟨N, lw, A, im, t, w, f, hM⟩ := hM
  refine gm_sz (gm_p_load (pc := 387) (i := .aload_n 1) (sr := 2) (j := 1) (by decide +kernel) rfl hL.2.2.1 rfl) ?_
  refine mn_arg (pc := 388) (j := 1) (by decide +kernel) (by decide +kernel) (by decide +kernel) (by decide +kernel) (by decide +kernel) hL hi (by decide) hLX ?_
  refine gm_sz (gm_p_load (pc := 394) (i := .aload_n 3) (sr := 2) (j := 3) (by decide +kernel) rfl hL.2.2.2.2.1 rfl) ?_
  refine rq_x (pc := 395) (ix := 162) (mj := 127) (xs := [X (i + 1)]) (st := []) (ds := [(-2147483648, 2147483647)]) (r := true) hb (by omega) hM (by decide +kernel) (by decide +kernel) (by decide +kernel) (by decide +kernel) (show 3 = gm_na 127 by decide +kernel) (show 3 ≤ gm_ml 127 by decide +kernel) (Nat.le_of_ble_eq_true rfl) ax_heat_s al_heat_s ax_heat_c al_heat_c ax_heat_v al_heat_v (bc_in1 (mn_w (hX _)) bc_in0) (List.forall_mem_cons.mpr ⟨hX _, (fun _ h => nomatch h)⟩) (by omega) (by omega) ?_
  intro u1 la1 K1 R1 M1 hu1 hb1 hM1
  obtain ⟨y1, rfl⟩ : ∃ y, u1 = some (gm_vi y) := hu1
  show gm_Wp X LX 280 _ _ 370 398 L [gm_vi y1] (245 + 4 * g) K1 R1 M1 Q
  refine gm_sz (gm_p_stor (pc := 398) (i := .istore 5) (sr := 0) (j := 5) (by decide +kernel) rfl (by show 5 + 0 < L.length; have := hL.1; omega) rfl) ?_
  have hL5 := mn_L_s (y := y1) hL (j := 5) (Or.inl rfl)
  have l55 := mn_l5 (y := y1) hL
  generalize gm_lst L 5 (gm_vi y1) = L5 at hL5 l55 ⊢
  refine gm_sz (gm_p_load (pc := 400) (i := .aload_n 2) (sr := 2) (j := 2) (by decide +kernel) rfl hL5.2.2.2.1 rfl) ?_
  refine mn_arg (pc := 401) (j := 1) (by decide +kernel) (by decide +kernel) (by decide +kernel) (by decide +kernel) (by decide +kernel) hL5 hi (by decide) hLX ?_
  refine rq_m (pc := 407) (ix := 165) (mj := 284) (xs := [X (i + 1)]) (st := []) (ds := [(-2147483648, 2147483647)]) (r := true) hb1 (by omega) hM1 (by decide +kernel) (by decide +kernel) (by decide +kernel) (by decide +kernel) (show 1 = gm_na 284 by decide +kernel) (show 2 ≤ gm_ml 284 by decide +kernel) (Nat.le_of_ble_eq_true rfl) am_heat_s am_heat_c am_heat_v (bc_in1 (mn_w (hX _)) bc_in0) (List.forall_mem_cons.mpr ⟨hX _, (fun _ h => nomatch h)⟩) (by omega) (by omega) ?_
  intro u2 la2 K2 R2 M2 hu2 hb2 hM2
  obtain ⟨y2, rfl⟩ : ∃ y, u2 = some (gm_vi y) := hu2
  show gm_Wp X LX 280 _ _ 370 410 L5 [gm_vi y2] (245 + 4 * g) K2 R2 M2 Q
  refine gm_sz (gm_p_stor (pc := 410) (i := .istore 6) (sr := 0) (j := 6) (by decide +kernel) rfl (by show 6 + 0 < L5.length; have := hL5.1; omega) rfl) ?_
  have hL6 := mn_L_s (y := y2) hL5 (j := 6) (Or.inr rfl)
  have l66 := mn_l6 (y := y2) hL5
  have l65 := mn_l65 (y := y2) l55
  generalize gm_lst L5 6 (gm_vi y2) = L6 at hL6 l66 l65 ⊢
  refine gm_sz (gm_p_goto (pc := 412) (off := 1581) (by decide +kernel) (by decide)) ?_
  exact gm_Wp_wk (Nat.le_refl _) (by omega) (by omega) (rest g _ _ _ _ L6 hb2 (by omega) ⟨_, _, _, _, _, _, _, hM2⟩ hL6)
theorem mc_6 (hb : bg g la K R M) (hg : g < 9990) (hM : RELW la K M) (hL : mn_L i L) (hi : 0 ≤ i ∧ i + 6 ≤ (LX : Int)) (hLX : LX ≤ 3072) (hX : ∀ j, gm_ir (X j)) (hbc : 12 ≤ bc) (hbs : 1200 ≤ bs) (rest : mn_R X LX bc bs i g Q) : gm_Wp X LX 280 bc bs 370 415 L [] (245 + 4 * g) K R M Q := by
  obtain ⟨N, lw, A, im, t, w, f, hM⟩ := hM
  refine gm_sz (gm_p_load (pc := 415) (i := .aload_n 1) (sr := 2) (j := 1) (by decide +kernel) rfl hL.2.2.1 rfl) ?_
  refine mn_arg (pc := 416) (j := 1) (by decide +kernel) (by decide +kernel) (by decide +kernel) (by decide +kernel) (by decide +kernel) hL hi (by decide) hLX ?_
  refine mn_arg (pc := 422) (j := 2) (by decide +kernel) (by decide +kernel) (by decide +kernel) (by decide +kernel) (by decide +kernel) hL hi (by decide) hLX ?_
  refine gm_sz (gm_p_load (pc := 428) (i := .aload_n 3) (sr := 2) (j := 3) (by decide +kernel) rfl hL.2.2.2.2.1 rfl) ?_
  refine rq_x (pc := 429) (ix := 166) (mj := 130) (xs := [X (i + 1), X (i + 2)]) (st := []) (ds := [(-2147483648, 2147483647), (-2147483648, 2147483647)]) (r := true) hb (by omega) hM (by decide +kernel) (by decide +kernel) (by decide +kernel) (by decide +kernel) (show 4 = gm_na 130 by decide +kernel) (show 4 ≤ gm_ml 130 by decide +kernel) (Nat.le_of_ble_eq_true rfl) ax_speed_s al_speed_s ax_speed_c al_speed_c ax_speed_v al_speed_v (bc_in1 (mn_w (hX _)) (bc_in1 (mn_w (hX _)) bc_in0)) (List.forall_mem_cons.mpr ⟨hX _, (List.forall_mem_cons.mpr ⟨hX _, (fun _ h => nomatch h)⟩)⟩) (by omega) (by omega) ?_
  intro u1 la1 K1 R1 M1 hu1 hb1 hM1
  obtain ⟨y1, rfl⟩ : ∃ y, u1 = some (gm_vi y) := hu1
  show gm_Wp X LX 280 _ _ 370 432 L [gm_vi y1] (245 + 4 * g) K1 R1 M1 Q
  refine gm_sz (gm_p_stor (pc := 432) (i := .istore 5) (sr := 0) (j := 5) (by decide +kernel) rfl (by show 5 + 0 < L.length; have := hL.1; omega) rfl) ?_
  have hL5 := mn_L_s (y := y1) hL (j := 5) (Or.inl rfl)
  have l55 := mn_l5 (y := y1) hL
  generalize gm_lst L 5 (gm_vi y1) = L5 at hL5 l55 ⊢
  refine gm_sz (gm_p_load (pc := 434) (i := .aload_n 2) (sr := 2) (j := 2) (by decide +kernel) rfl hL5.2.2.2.1 rfl) ?_
  refine mn_arg (pc := 435) (j := 1) (by decide +kernel) (by decide +kernel) (by decide +kernel) (by decide +kernel) (by decide +kernel) hL5 hi (by decide) hLX ?_
  refine mn_arg (pc := 441) (j := 2) (by decide +kernel) (by decide +kernel) (by decide +kernel) (by decide +kernel) (by decide +kernel) hL5 hi (by decide) hLX ?_
  refine rq_m (pc := 447) (ix := 169) (mj := 287) (xs := [X (i + 1), X (i + 2)]) (st := []) (ds := [(-2147483648, 2147483647), (-2147483648, 2147483647)]) (r := true) hb1 (by omega) hM1 (by decide +kernel) (by decide +kernel) (by decide +kernel) (by decide +kernel) (show 2 = gm_na 287 by decide +kernel) (show 3 ≤ gm_ml 287 by decide +kernel) (Nat.le_of_ble_eq_true rfl) am_speed_s am_speed_c am_speed_v (bc_in1 (mn_w (hX _)) (bc_in1 (mn_w (hX _)) bc_in0)) (List.forall_mem_cons.mpr ⟨hX _, (List.forall_mem_cons.mpr ⟨hX _, (fun _ h => nomatch h)⟩)⟩) (by omega) (by omega) ?_
  intro u2 la2 K2 R2 M2 hu2 hb2 hM2
  obtain ⟨y2, rfl⟩ : ∃ y, u2 = some (gm_vi y) := hu2
  show gm_Wp X LX 280 _ _ 370 450 L5 [gm_vi y2] (245 + 4 * g) K2 R2 M2 Q
  refine gm_sz (gm_p_stor (pc := 450) (i := .istore 6) (sr := 0) (j := 6) (by decide +kernel) rfl (by show 6 + 0 < L5.length; have := hL5.1; omega) rfl) ?_
  have hL6 := mn_L_s (y := y2) hL5 (j := 6) (Or.inr rfl)
  have l66 := mn_l6 (y := y2) hL5
  have l65 := mn_l65 (y := y2) l55
  generalize gm_lst L5 6 (gm_vi y2) = L6 at hL6 l66 l65 ⊢
  refine gm_sz (gm_p_goto (pc := 452) (off := 1541) (by decide +kernel) (by decide)) ?_
  exact gm_Wp_wk (Nat.le_refl _) (by omega) (by omega) (rest g _ _ _ _ L6 hb2 (by omega) ⟨_, _, _, _, _, _, _, hM2⟩ hL6)
theorem mc_7 (hb : bg g la K R M) (hg : g < 9990) (hM : RELW la K M) (hL : mn_L i L) (hi : 0 ≤ i ∧ i + 6 ≤ (LX : Int)) (hLX : LX ≤ 3072) (hX : ∀ j, gm_ir (X j)) (hbc : 12 ≤ bc) (hbs : 1200 ≤ bs) (rest : mn_R X LX bc bs i g Q) : gm_Wp X LX 280 bc bs 370 455 L [] (245 + 4 * g) K R M Q := by
  obtain ⟨N, lw, A, im, t, w, f, hM⟩ := hM
  refine gm_sz (gm_p_load (pc := 455) (i := .aload_n 1) (sr := 2) (j := 1) (by decide +kernel) rfl hL.2.2.1 rfl) ?_
  refine mn_arg (pc := 456) (j := 1) (by decide +kernel) (by decide +kernel) (by decide +kernel) (by decide +kernel) (by decide +kernel) hL hi (by decide) hLX ?_
  refine mn_arg (pc := 462) (j := 2) (by decide +kernel) (by decide +kernel) (by decide +kernel) (by decide +kernel) (by decide +kernel) hL hi (by decide) hLX ?_
  refine mn_arg (pc := 468) (j := 3) (by decide +kernel) (by decide +kernel) (by decide +kernel) (by decide +kernel) (by decide +kernel) hL hi (by decide) hLX ?_
  refine gm_sz (gm_p_load (pc := 474) (i := .aload_n 3) (sr := 2) (j := 3) (by decide +kernel) rfl hL.2.2.2.2.1 rfl) ?_
  refine rq_x (pc := 475) (ix := 170) (mj := 135) (xs := [X (i + 1), X (i + 2), X (i + 3)]) (st := []) (ds := [(-2147483648, 2147483647), (-2147483648, 2147483647), (-2147483648, 2147483647)]) (r := true) hb (by omega) hM (by decide +kernel) (by decide +kernel) (by decide +kernel) (by decide +kernel) (show 5 = gm_na 135 by decide +kernel) (show 5 ≤ gm_ml 135 by decide +kernel) (Nat.le_of_ble_eq_true rfl) ax_flow_s al_flow_s ax_flow_c al_flow_c ax_flow_v al_flow_v (bc_in1 (mn_w (hX _)) (bc_in1 (mn_w (hX _)) (bc_in1 (mn_w (hX _)) bc_in0))) (List.forall_mem_cons.mpr ⟨hX _, (List.forall_mem_cons.mpr ⟨hX _, (List.forall_mem_cons.mpr ⟨hX _, (fun _ h => nomatch h)⟩)⟩)⟩) (by omega) (by omega) ?_
  intro u1 la1 K1 R1 M1 hu1 hb1 hM1
  obtain ⟨y1, rfl⟩ : ∃ y, u1 = some (gm_vi y) := hu1
  show gm_Wp X LX 280 _ _ 370 478 L [gm_vi y1] (245 + 4 * g) K1 R1 M1 Q
  refine gm_sz (gm_p_stor (pc := 478) (i := .istore 5) (sr := 0) (j := 5) (by decide +kernel) rfl (by show 5 + 0 < L.length; have := hL.1; omega) rfl) ?_
  have hL5 := mn_L_s (y := y1) hL (j := 5) (Or.inl rfl)
  have l55 := mn_l5 (y := y1) hL
  generalize gm_lst L 5 (gm_vi y1) = L5 at hL5 l55 ⊢
  refine gm_sz (gm_p_load (pc := 480) (i := .aload_n 2) (sr := 2) (j := 2) (by decide +kernel) rfl hL5.2.2.2.1 rfl) ?_
  refine mn_arg (pc := 481) (j := 1) (by decide +kernel) (by decide +kernel) (by decide +kernel) (by decide +kernel) (by decide +kernel) hL5 hi (by decide) hLX ?_
  refine mn_arg (pc := 487) (j := 2) (by decide +kernel) (by decide +kernel) (by decide +kernel) (by decide +kernel) (by decide +kernel) hL5 hi (by decide) hLX ?_
  refine mn_arg (pc := 493) (j := 3) (by decide +kernel) (by decide +kernel) (by decide +kernel) (by decide +kernel) (by decide +kernel) hL5 hi (by decide) hLX ?_
  refine rq_m (pc := 499) (ix := 173) (mj := 291) (xs := [X (i + 1), X (i + 2), X (i + 3)]) (st := []) (ds := [(-2147483648, 2147483647), (-2147483648, 2147483647), (-2147483648, 2147483647)]) (r := true) hb1 (by omega) hM1 (by decide +kernel) (by decide +kernel) (by decide +kernel) (by decide +kernel) (show 3 = gm_na 291 by decide +kernel) (show 4 ≤ gm_ml 291 by decide +kernel) (Nat.le_of_ble_eq_true rfl) am_flow_s am_flow_c am_flow_v (bc_in1 (mn_w (hX _)) (bc_in1 (mn_w (hX _)) (bc_in1 (mn_w (hX _)) bc_in0))) (List.forall_mem_cons.mpr ⟨hX _, (List.forall_mem_cons.mpr ⟨hX _, (List.forall_mem_cons.mpr ⟨hX _, (fun _ h => nomatch h)⟩)⟩)⟩) (by omega) (by omega) ?_
  intro u2 la2 K2 R2 M2 hu2 hb2 hM2
  obtain ⟨y2, rfl⟩ : ∃ y, u2 = some (gm_vi y) := hu2
  show gm_Wp X LX 280 _ _ 370 502 L5 [gm_vi y2] (245 + 4 * g) K2 R2 M2 Q
  refine gm_sz (gm_p_stor (pc := 502) (i := .istore 6) (sr := 0) (j := 6) (by decide +kernel) rfl (by show 6 + 0 < L5.length; have := hL5.1; omega) rfl) ?_
  have hL6 := mn_L_s (y := y2) hL5 (j := 6) (Or.inr rfl)
  have l66 := mn_l6 (y := y2) hL5
  have l65 := mn_l65 (y := y2) l55
  generalize gm_lst L5 6 (gm_vi y2) = L6 at hL6 l66 l65 ⊢
  refine gm_sz (gm_p_goto (pc := 504) (off := 1489) (by decide +kernel) (by decide)) ?_
  exact gm_Wp_wk (Nat.le_refl _) (by omega) (by omega) (rest g _ _ _ _ L6 hb2 (by omega) ⟨_, _, _, _, _, _, _, hM2⟩ hL6)
theorem mc_8 (hb : bg g la K R M) (hg : g < 9990) (hM : RELW la K M) (hL : mn_L i L) (hi : 0 ≤ i ∧ i + 6 ≤ (LX : Int)) (hLX : LX ≤ 3072) (hX : ∀ j, gm_ir (X j)) (hbc : 12 ≤ bc) (hbs : 1200 ≤ bs) (rest : mn_R X LX bc bs i g Q) : gm_Wp X LX 280 bc bs 370 507 L [] (245 + 4 * g) K R M Q := by
  obtain ⟨N, lw, A, im, t, w, f, hM⟩ := hM
  refine gm_sz (gm_p_load (pc := 507) (i := .aload_n 1) (sr := 2) (j := 1) (by decide +kernel) rfl hL.2.2.1 rfl) ?_
  refine mn_arg (pc := 508) (j := 1) (by decide +kernel) (by decide +kernel) (by decide +kernel) (by decide +kernel) (by decide +kernel) hL hi (by decide) hLX ?_
  refine mn_arg (pc := 514) (j := 2) (by decide +kernel) (by decide +kernel) (by decide +kernel) (by decide +kernel) (by decide +kernel) hL hi (by decide) hLX ?_
  refine gm_sz (gm_p_load (pc := 520) (i := .aload_n 3) (sr := 2) (j := 3) (by decide +kernel) rfl hL.2.2.2.2.1 rfl) ?_
  refine rq_x (pc := 521) (ix := 174) (mj := 137) (xs := [X (i + 1), X (i + 2)]) (st := []) (ds := [(-2147483648, 2147483647), (-2147483648, 2147483647)]) (r := true) hb (by omega) hM (by decide +kernel) (by decide +kernel) (by decide +kernel) (by decide +kernel) (show 4 = gm_na 137 by decide +kernel) (show 4 ≤ gm_ml 137 by decide +kernel) (Nat.le_of_ble_eq_true rfl) ax_person_s al_person_s ax_person_c al_person_c ax_person_v al_person_v (bc_in1 (mn_w (hX _)) (bc_in1 (mn_w (hX _)) bc_in0)) (List.forall_mem_cons.mpr ⟨hX _, (List.forall_mem_cons.mpr ⟨hX _, (fun _ h => nomatch h)⟩)⟩) (by omega) (by omega) ?_
  intro u1 la1 K1 R1 M1 hu1 hb1 hM1
  obtain ⟨y1, rfl⟩ : ∃ y, u1 = some (gm_vi y) := hu1
  show gm_Wp X LX 280 _ _ 370 524 L [gm_vi y1] (245 + 4 * g) K1 R1 M1 Q
  refine gm_sz (gm_p_stor (pc := 524) (i := .istore 5) (sr := 0) (j := 5) (by decide +kernel) rfl (by show 5 + 0 < L.length; have := hL.1; omega) rfl) ?_
  have hL5 := mn_L_s (y := y1) hL (j := 5) (Or.inl rfl)
  have l55 := mn_l5 (y := y1) hL
  generalize gm_lst L 5 (gm_vi y1) = L5 at hL5 l55 ⊢
  refine gm_sz (gm_p_load (pc := 526) (i := .aload_n 2) (sr := 2) (j := 2) (by decide +kernel) rfl hL5.2.2.2.1 rfl) ?_
  refine mn_arg (pc := 527) (j := 1) (by decide +kernel) (by decide +kernel) (by decide +kernel) (by decide +kernel) (by decide +kernel) hL5 hi (by decide) hLX ?_
  refine mn_arg (pc := 533) (j := 2) (by decide +kernel) (by decide +kernel) (by decide +kernel) (by decide +kernel) (by decide +kernel) hL5 hi (by decide) hLX ?_
  refine rq_m (pc := 539) (ix := 176) (mj := 297) (xs := [X (i + 1), X (i + 2)]) (st := []) (ds := [(-2147483648, 2147483647), (-2147483648, 2147483647)]) (r := true) hb1 (by omega) hM1 (by decide +kernel) (by decide +kernel) (by decide +kernel) (by decide +kernel) (show 2 = gm_na 297 by decide +kernel) (show 3 ≤ gm_ml 297 by decide +kernel) (Nat.le_of_ble_eq_true rfl) am_person_s am_person_c am_person_v (bc_in1 (mn_w (hX _)) (bc_in1 (mn_w (hX _)) bc_in0)) (List.forall_mem_cons.mpr ⟨hX _, (List.forall_mem_cons.mpr ⟨hX _, (fun _ h => nomatch h)⟩)⟩) (by omega) (by omega) ?_
  intro u2 la2 K2 R2 M2 hu2 hb2 hM2
  obtain ⟨y2, rfl⟩ : ∃ y, u2 = some (gm_vi y) := hu2
  show gm_Wp X LX 280 _ _ 370 542 L5 [gm_vi y2] (245 + 4 * g) K2 R2 M2 Q
  refine gm_sz (gm_p_stor (pc := 542) (i := .istore 6) (sr := 0) (j := 6) (by decide +kernel) rfl (by show 6 + 0 < L5.length; have := hL5.1; omega) rfl) ?_
  have hL6 := mn_L_s (y := y2) hL5 (j := 6) (Or.inr rfl)
  have l66 := mn_l6 (y := y2) hL5
  have l65 := mn_l65 (y := y2) l55
  generalize gm_lst L5 6 (gm_vi y2) = L6 at hL6 l66 l65 ⊢
  refine gm_sz (gm_p_goto (pc := 544) (off := 1449) (by decide +kernel) (by decide)) ?_
  exact gm_Wp_wk (Nat.le_refl _) (by omega) (by omega) (rest g _ _ _ _ L6 hb2 (by omega) ⟨_, _, _, _, _, _, _, hM2⟩ hL6)
theorem mc_9 (hb : bg g la K R M) (hg : g < 9990) (hM : RELW la K M) (hL : mn_L i L) (hi : 0 ≤ i ∧ i + 6 ≤ (LX : Int)) (hLX : LX ≤ 3072) (hX : ∀ j, gm_ir (X j)) (hbc : 12 ≤ bc) (hbs : 1200 ≤ bs) (rest : mn_R X LX bc bs i g Q) : gm_Wp X LX 280 bc bs 370 547 L [] (245 + 4 * g) K R M Q := by
  obtain ⟨N, lw, A, im, t, w, f, hM⟩ := hM
  refine gm_sz (gm_p_load (pc := 547) (i := .aload_n 1) (sr := 2) (j := 1) (by decide +kernel) rfl hL.2.2.1 rfl) ?_
  refine mn_arg (pc := 548) (j := 1) (by decide +kernel) (by decide +kernel) (by decide +kernel) (by decide +kernel) (by decide +kernel) hL hi (by decide) hLX ?_
  refine mn_arg (pc := 554) (j := 2) (by decide +kernel) (by decide +kernel) (by decide +kernel) (by decide +kernel) (by decide +kernel) hL hi (by decide) hLX ?_
  refine gm_sz (gm_p_load (pc := 560) (i := .aload_n 3) (sr := 2) (j := 3) (by decide +kernel) rfl hL.2.2.2.2.1 rfl) ?_
  refine rq_x (pc := 561) (ix := 177) (mj := 141) (xs := [X (i + 1), X (i + 2)]) (st := []) (ds := [(-2147483648, 2147483647), (-2147483648, 2147483647)]) (r := true) hb (by omega) hM (by decide +kernel) (by decide +kernel) (by decide +kernel) (by decide +kernel) (show 4 = gm_na 141 by decide +kernel) (show 4 ≤ gm_ml 141 by decide +kernel) (Nat.le_of_ble_eq_true rfl) ax_letter_s al_letter_s ax_letter_c al_letter_c ax_letter_v al_letter_v (bc_in1 (mn_w (hX _)) (bc_in1 (mn_w (hX _)) bc_in0)) (List.forall_mem_cons.mpr ⟨hX _, (List.forall_mem_cons.mpr ⟨hX _, (fun _ h => nomatch h)⟩)⟩) (by omega) (by omega) ?_
  intro u1 la1 K1 R1 M1 hu1 hb1 hM1
  obtain ⟨y1, rfl⟩ : ∃ y, u1 = some (gm_vi y) := hu1
  show gm_Wp X LX 280 _ _ 370 564 L [gm_vi y1] (245 + 4 * g) K1 R1 M1 Q
  refine gm_sz (gm_p_stor (pc := 564) (i := .istore 5) (sr := 0) (j := 5) (by decide +kernel) rfl (by show 5 + 0 < L.length; have := hL.1; omega) rfl) ?_
  have hL5 := mn_L_s (y := y1) hL (j := 5) (Or.inl rfl)
  have l55 := mn_l5 (y := y1) hL
  generalize gm_lst L 5 (gm_vi y1) = L5 at hL5 l55 ⊢
  refine gm_sz (gm_p_load (pc := 566) (i := .aload_n 2) (sr := 2) (j := 2) (by decide +kernel) rfl hL5.2.2.2.1 rfl) ?_
  refine mn_arg (pc := 567) (j := 1) (by decide +kernel) (by decide +kernel) (by decide +kernel) (by decide +kernel) (by decide +kernel) hL5 hi (by decide) hLX ?_
  refine mn_arg (pc := 573) (j := 2) (by decide +kernel) (by decide +kernel) (by decide +kernel) (by decide +kernel) (by decide +kernel) hL5 hi (by decide) hLX ?_
  refine rq_m (pc := 579) (ix := 179) (mj := 308) (xs := [X (i + 1), X (i + 2)]) (st := []) (ds := [(-2147483648, 2147483647), (-2147483648, 2147483647)]) (r := true) hb1 (by omega) hM1 (by decide +kernel) (by decide +kernel) (by decide +kernel) (by decide +kernel) (show 2 = gm_na 308 by decide +kernel) (show 3 ≤ gm_ml 308 by decide +kernel) (Nat.le_of_ble_eq_true rfl) am_letter_s am_letter_c am_letter_v (bc_in1 (mn_w (hX _)) (bc_in1 (mn_w (hX _)) bc_in0)) (List.forall_mem_cons.mpr ⟨hX _, (List.forall_mem_cons.mpr ⟨hX _, (fun _ h => nomatch h)⟩)⟩) (by omega) (by omega) ?_
  intro u2 la2 K2 R2 M2 hu2 hb2 hM2
  obtain ⟨y2, rfl⟩ : ∃ y, u2 = some (gm_vi y) := hu2
  show gm_Wp X LX 280 _ _ 370 582 L5 [gm_vi y2] (245 + 4 * g) K2 R2 M2 Q
  refine gm_sz (gm_p_stor (pc := 582) (i := .istore 6) (sr := 0) (j := 6) (by decide +kernel) rfl (by show 6 + 0 < L5.length; have := hL5.1; omega) rfl) ?_
  have hL6 := mn_L_s (y := y2) hL5 (j := 6) (Or.inr rfl)
  have l66 := mn_l6 (y := y2) hL5
  have l65 := mn_l65 (y := y2) l55
  generalize gm_lst L5 6 (gm_vi y2) = L6 at hL6 l66 l65 ⊢
  refine gm_sz (gm_p_goto (pc := 584) (off := 1409) (by decide +kernel) (by decide)) ?_
  exact gm_Wp_wk (Nat.le_refl _) (by omega) (by omega) (rest g _ _ _ _ L6 hb2 (by omega) ⟨_, _, _, _, _, _, _, hM2⟩ hL6)
theorem mc_10 (hb : bg g la K R M) (hg : g < 9990) (hM : RELW la K M) (hL : mn_L i L) (hi : 0 ≤ i ∧ i + 6 ≤ (LX : Int)) (hLX : LX ≤ 3072) (hX : ∀ j, gm_ir (X j)) (hbc : 12 ≤ bc) (hbs : 1200 ≤ bs) (rest : mn_R X LX bc bs i g Q) : gm_Wp X LX 280 bc bs 370 587 L [] (245 + 4 * g) K R M Q := by
  obtain ⟨N, lw, A, im, t, w, f, hM⟩ := hM
  refine gm_sz (gm_p_load (pc := 587) (i := .aload_n 1) (sr := 2) (j := 1) (by decide +kernel) rfl hL.2.2.1 rfl) ?_
  refine mn_arg (pc := 588) (j := 1) (by decide +kernel) (by decide +kernel) (by decide +kernel) (by decide +kernel) (by decide +kernel) hL hi (by decide) hLX ?_
  refine mn_arg (pc := 594) (j := 2) (by decide +kernel) (by decide +kernel) (by decide +kernel) (by decide +kernel) (by decide +kernel) hL hi (by decide) hLX ?_
  refine gm_sz (gm_p_load (pc := 600) (i := .aload_n 3) (sr := 2) (j := 3) (by decide +kernel) rfl hL.2.2.2.2.1 rfl) ?_
  refine rq_x (pc := 601) (ix := 180) (mj := 146) (xs := [X (i + 1), X (i + 2)]) (st := []) (ds := [(-2147483648, 2147483647), (-2147483648, 2147483647)]) (r := true) hb (by omega) hM (by decide +kernel) (by decide +kernel) (by decide +kernel) (by decide +kernel) (show 4 = gm_na 146 by decide +kernel) (show 4 ≤ gm_ml 146 by decide +kernel) (Nat.le_of_ble_eq_true rfl) ax_where_s al_where_s ax_where_c al_where_c ax_where_v al_where_v (bc_in1 (mn_w (hX _)) (bc_in1 (mn_w (hX _)) bc_in0)) (List.forall_mem_cons.mpr ⟨hX _, (List.forall_mem_cons.mpr ⟨hX _, (fun _ h => nomatch h)⟩)⟩) (by omega) (by omega) ?_
  intro u1 la1 K1 R1 M1 hu1 hb1 hM1
  obtain ⟨y1, rfl⟩ : ∃ y, u1 = some (gm_vi y) := hu1
  show gm_Wp X LX 280 _ _ 370 604 L [gm_vi y1] (245 + 4 * g) K1 R1 M1 Q
  refine gm_sz (gm_p_stor (pc := 604) (i := .istore 5) (sr := 0) (j := 5) (by decide +kernel) rfl (by show 5 + 0 < L.length; have := hL.1; omega) rfl) ?_
  have hL5 := mn_L_s (y := y1) hL (j := 5) (Or.inl rfl)
  have l55 := mn_l5 (y := y1) hL
  generalize gm_lst L 5 (gm_vi y1) = L5 at hL5 l55 ⊢
  refine gm_sz (gm_p_load (pc := 606) (i := .aload_n 2) (sr := 2) (j := 2) (by decide +kernel) rfl hL5.2.2.2.1 rfl) ?_
  refine mn_arg (pc := 607) (j := 1) (by decide +kernel) (by decide +kernel) (by decide +kernel) (by decide +kernel) (by decide +kernel) hL5 hi (by decide) hLX ?_
  refine mn_arg (pc := 613) (j := 2) (by decide +kernel) (by decide +kernel) (by decide +kernel) (by decide +kernel) (by decide +kernel) hL5 hi (by decide) hLX ?_
  refine rq_m (pc := 619) (ix := 182) (mj := 313) (xs := [X (i + 1), X (i + 2)]) (st := []) (ds := [(-2147483648, 2147483647), (-2147483648, 2147483647)]) (r := true) hb1 (by omega) hM1 (by decide +kernel) (by decide +kernel) (by decide +kernel) (by decide +kernel) (show 2 = gm_na 313 by decide +kernel) (show 3 ≤ gm_ml 313 by decide +kernel) (Nat.le_of_ble_eq_true rfl) am_where_s am_where_c am_where_v (bc_in1 (mn_w (hX _)) (bc_in1 (mn_w (hX _)) bc_in0)) (List.forall_mem_cons.mpr ⟨hX _, (List.forall_mem_cons.mpr ⟨hX _, (fun _ h => nomatch h)⟩)⟩) (by omega) (by omega) ?_
  intro u2 la2 K2 R2 M2 hu2 hb2 hM2
  obtain ⟨y2, rfl⟩ : ∃ y, u2 = some (gm_vi y) := hu2
  show gm_Wp X LX 280 _ _ 370 622 L5 [gm_vi y2] (245 + 4 * g) K2 R2 M2 Q
  refine gm_sz (gm_p_stor (pc := 622) (i := .istore 6) (sr := 0) (j := 6) (by decide +kernel) rfl (by show 6 + 0 < L5.length; have := hL5.1; omega) rfl) ?_
  have hL6 := mn_L_s (y := y2) hL5 (j := 6) (Or.inr rfl)
  have l66 := mn_l6 (y := y2) hL5
  have l65 := mn_l65 (y := y2) l55
  generalize gm_lst L5 6 (gm_vi y2) = L6 at hL6 l66 l65 ⊢
  refine gm_sz (gm_p_goto (pc := 624) (off := 1369) (by decide +kernel) (by decide)) ?_
  exact gm_Wp_wk (Nat.le_refl _) (by omega) (by omega) (rest g _ _ _ _ L6 hb2 (by omega) ⟨_, _, _, _, _, _, _, hM2⟩ hL6)
theorem mc_11 (hb : bg g la K R M) (hg : g < 9990) (hM : RELW la K M) (hL : mn_L i L) (hi : 0 ≤ i ∧ i + 6 ≤ (LX : Int)) (hLX : LX ≤ 3072) (hX : ∀ j, gm_ir (X j)) (hbc : 12 ≤ bc) (hbs : 1200 ≤ bs) (rest : mn_R X LX bc bs i g Q) : gm_Wp X LX 280 bc bs 370 627 L [] (245 + 4 * g) K R M Q := by
  obtain ⟨N, lw, A, im, t, w, f, hM⟩ := hM
  refine gm_sz (gm_p_load (pc := 627) (i := .aload_n 1) (sr := 2) (j := 1) (by decide +kernel) rfl hL.2.2.1 rfl) ?_
  refine mn_arg (pc := 628) (j := 1) (by decide +kernel) (by decide +kernel) (by decide +kernel) (by decide +kernel) (by decide +kernel) hL hi (by decide) hLX ?_
  refine mn_arg (pc := 634) (j := 2) (by decide +kernel) (by decide +kernel) (by decide +kernel) (by decide +kernel) (by decide +kernel) hL hi (by decide) hLX ?_
  refine gm_sz (gm_p_load (pc := 640) (i := .aload_n 3) (sr := 2) (j := 3) (by decide +kernel) rfl hL.2.2.2.2.1 rfl) ?_
  refine rf_x (pc := 641) (ix := 183) (mj := 149) (xs := [X (i + 1), X (i + 2)]) (st := []) (ds := [(-2147483648, 2147483647), (-2147483648, 2147483647)]) (c := (q_deep lw N (X (i + 1)) (X (i + 2))).1) (ov := oV (q_deep lw N (X (i + 1)) (X (i + 2))).1 (q_deep lw N (X (i + 1)) (X (i + 2))).2) hb (by omega) hM (by decide +kernel) (by decide +kernel) (by decide +kernel) (by decide +kernel) (show 4 = gm_na 149 by decide +kernel) (show 4 ≤ gm_ml 149 by decide +kernel) (Nat.le_of_ble_eq_true rfl) ax_deep_s al_deep_s ax_deep_c al_deep_c ax_deep_v al_deep_v (bc_in1 (mn_w (hX _)) (bc_in1 (mn_w (hX _)) bc_in0)) (List.forall_mem_cons.mpr ⟨hX _, (List.forall_mem_cons.mpr ⟨hX _, (fun _ h => nomatch h)⟩)⟩) (by omega) (by omega) (fw_deep hb hM (hX _) (hX _)) ?_
  intro u1 la1 K1 R1 M1 hu1 hb1 hM1
  obtain ⟨y1, rfl, hy1, hv1⟩ := hu1
  show gm_Wp X LX 280 _ _ 370 644 L [gm_vi y1] (245 + 4 * g) K1 R1 M1 Q
  refine gm_sz (gm_p_stor (pc := 644) (i := .istore 5) (sr := 0) (j := 5) (by decide +kernel) rfl (by show 5 + 0 < L.length; have := hL.1; omega) rfl) ?_
  have hL5 := mn_L_s (y := y1) hL (j := 5) (Or.inl rfl)
  have l55 := mn_l5 (y := y1) hL
  generalize gm_lst L 5 (gm_vi y1) = L5 at hL5 l55 ⊢
  refine gm_sz (gm_p_load (pc := 646) (i := .aload_n 2) (sr := 2) (j := 2) (by decide +kernel) rfl hL5.2.2.2.1 rfl) ?_
  refine mn_arg (pc := 647) (j := 1) (by decide +kernel) (by decide +kernel) (by decide +kernel) (by decide +kernel) (by decide +kernel) hL5 hi (by decide) hLX ?_
  refine mn_arg (pc := 653) (j := 2) (by decide +kernel) (by decide +kernel) (by decide +kernel) (by decide +kernel) (by decide +kernel) hL5 hi (by decide) hLX ?_
  refine rf_m (pc := 659) (ix := 185) (mj := 314) (xs := [X (i + 1), X (i + 2)]) (st := []) (ds := [(-2147483648, 2147483647), (-2147483648, 2147483647)]) (c := (q_deep lw N (X (i + 1)) (X (i + 2))).1) (v := (q_deep lw N (X (i + 1)) (X (i + 2))).2) hb1 (by omega) hM1 (by decide +kernel) (by decide +kernel) (by decide +kernel) (by decide +kernel) (show 2 = gm_na 314 by decide +kernel) (show 3 ≤ gm_ml 314 by decide +kernel) (Nat.le_of_ble_eq_true rfl) am_deep_s am_deep_c2 am_deep_v (bc_in1 (mn_w (hX _)) (bc_in1 (mn_w (hX _)) bc_in0)) (List.forall_mem_cons.mpr ⟨hX _, (List.forall_mem_cons.mpr ⟨hX _, (fun _ h => nomatch h)⟩)⟩) (by omega) (by omega) (fm_deep hb1 hM1 (hX _) (hX _)) ?_
  intro u2 la2 K2 R2 M2 hu2 hb2 hM2
  obtain ⟨y2, rfl, hy2, hth2, h245⟩ := hu2
  show gm_Wp X LX 280 _ _ 370 662 L5 [gm_vi y2] (245 + 4 * g) K2 R2 M2 Q
  refine gm_sz (gm_p_stor (pc := 662) (i := .istore 6) (sr := 0) (j := 6) (by decide +kernel) rfl (by show 6 + 0 < L5.length; have := hL5.1; omega) rfl) ?_
  have hL6 := mn_L_s (y := y2) hL5 (j := 6) (Or.inr rfl)
  have l66 := mn_l6 (y := y2) hL5
  have l65 := mn_l65 (y := y2) l55
  generalize gm_lst L5 6 (gm_vi y2) = L6 at hL6 l66 l65 ⊢
  refine mn_cmpA (p := 664) (mj := 369) (ixt := 186) (jt := 3) hb2 hL6 l65 l66 (by decide +kernel) (by decide +kernel) (by decide +kernel) (by decide +kernel) (by decide +kernel) (by decide +kernel) (by decide +kernel) (by decide +kernel) (by decide +kernel) (by decide +kernel) (by decide +kernel) (by decide +kernel) (by decide +kernel) (by decide +kernel) (by decide +kernel) (by decide +kernel) (by decide +kernel) (by decide +kernel) (by decide +kernel) (by decide +kernel) (by decide +kernel) (by decide +kernel) (by decide +kernel) (by decide +kernel) (by decide +kernel) ?_ ?_ ?_
  · exact hth2.trans hy1.symm
  · exact qf_cmp iq_deep hy1 (fun v e => by rw [h245]; exact hv1 v e) hy2
  · refine gm_sz (gm_p_goto (pc := 692) (off := 1301) (by decide +kernel) (by decide)) ?_
    exact gm_Wp_wk (Nat.le_refl _) (by omega) (by omega) (rest g _ _ _ _ L6 hb2 (by omega) ⟨_, _, _, _, _, _, _, hM2⟩ hL6)
theorem mc_12 (hb : bg g la K R M) (hg : g < 9990) (hM : RELW la K M) (hL : mn_L i L) (hi : 0 ≤ i ∧ i + 6 ≤ (LX : Int)) (hLX : LX ≤ 3072) (hX : ∀ j, gm_ir (X j)) (hbc : 12 ≤ bc) (hbs : 1200 ≤ bs) (rest : mn_R X LX bc bs i g Q) : gm_Wp X LX 280 bc bs 370 695 L [] (245 + 4 * g) K R M Q := by
  obtain ⟨N, lw, A, im, t, w, f, hM⟩ := hM
  refine gm_sz (gm_p_load (pc := 695) (i := .aload_n 1) (sr := 2) (j := 1) (by decide +kernel) rfl hL.2.2.1 rfl) ?_
  refine mn_arg (pc := 696) (j := 1) (by decide +kernel) (by decide +kernel) (by decide +kernel) (by decide +kernel) (by decide +kernel) hL hi (by decide) hLX ?_
  refine mn_arg (pc := 702) (j := 2) (by decide +kernel) (by decide +kernel) (by decide +kernel) (by decide +kernel) (by decide +kernel) hL hi (by decide) hLX ?_
  refine gm_sz (gm_p_load (pc := 708) (i := .aload_n 3) (sr := 2) (j := 3) (by decide +kernel) rfl hL.2.2.2.2.1 rfl) ?_
  refine ow_post (pc := 709) (ix := 189) (st := []) hb (by omega) hM (by decide +kernel) (by decide +kernel) (Nat.le_of_ble_eq_true rfl) ax_post_s al_post_s ax_post_c al_post_c ax_post_v al_post_v (bc_in1 (mn_w (hX _)) (bc_in1 (mn_w (hX _)) bc_in0)) (hX _) (hX _) (by omega) (by omega) ?_
  intro la1 K1 R1 M1 hb1 hM1 hv1
  show gm_Wp X LX 280 _ _ 370 712 L [gm_vi ((ap_post N A (X (i + 1)) (X (i + 2))).1)] (245 + 4 * g) K1 R1 M1 Q
  refine gm_sz (gm_p_stor (pc := 712) (i := .istore 5) (sr := 0) (j := 5) (by decide +kernel) rfl (by show 5 + 0 < L.length; have := hL.1; omega) rfl) ?_
  have hL5 := mn_L_s (y := (ap_post N A (X (i + 1)) (X (i + 2))).1) hL (j := 5) (Or.inl rfl)
  have l55 := mn_l5 (y := (ap_post N A (X (i + 1)) (X (i + 2))).1) hL
  generalize gm_lst L 5 (gm_vi (ap_post N A (X (i + 1)) (X (i + 2))).1) = L5 at hL5 l55 ⊢
  refine gm_sz (gm_p_load (pc := 714) (i := .aload_n 2) (sr := 2) (j := 2) (by decide +kernel) rfl hL5.2.2.2.1 rfl) ?_
  refine mn_arg (pc := 715) (j := 1) (by decide +kernel) (by decide +kernel) (by decide +kernel) (by decide +kernel) (by decide +kernel) hL5 hi (by decide) hLX ?_
  refine mn_arg (pc := 721) (j := 2) (by decide +kernel) (by decide +kernel) (by decide +kernel) (by decide +kernel) (by decide +kernel) hL5 hi (by decide) hLX ?_
  refine om_post (pc := 727) (ix := 191) (st := []) hb1 (by omega) hM1 (by decide +kernel) (by decide +kernel) (Nat.le_of_ble_eq_true rfl) am_post_s am_post_c am_post_v (bc_in1 (mn_w (hX _)) (bc_in1 (mn_w (hX _)) bc_in0)) (hX _) (hX _) (by omega) (by omega) ?_
  intro u2 la2 K2 R2 M2 hu2 hb2 hM2 h245 hth2
  obtain ⟨y2, rfl, hy2⟩ := hu2
  show gm_Wp X LX 280 _ _ 370 730 L5 [gm_vi y2] (245 + 4 * g) K2 R2 M2 Q
  refine gm_sz (gm_p_stor (pc := 730) (i := .istore 6) (sr := 0) (j := 6) (by decide +kernel) rfl (by show 6 + 0 < L5.length; have := hL5.1; omega) rfl) ?_
  have hL6 := mn_L_s (y := y2) hL5 (j := 6) (Or.inr rfl)
  have l66 := mn_l6 (y := y2) hL5
  have l65 := mn_l65 (y := y2) l55
  generalize gm_lst L5 6 (gm_vi y2) = L6 at hL6 l66 l65 ⊢
  refine gm_sz (gm_p_goto (pc := 732) (off := 1261) (by decide +kernel) (by decide)) ?_
  exact gm_Wp_wk (Nat.le_refl _) (by omega) (by omega) (rest g _ _ _ _ L6 hb2 (by omega) ⟨_, _, _, _, _, _, _, hM2⟩ hL6)
theorem mc_13 (hb : bg g la K R M) (hg : g < 9990) (hM : RELW la K M) (hL : mn_L i L) (hi : 0 ≤ i ∧ i + 6 ≤ (LX : Int)) (hLX : LX ≤ 3072) (hX : ∀ j, gm_ir (X j)) (hbc : 12 ≤ bc) (hbs : 1200 ≤ bs) (rest : mn_R X LX bc bs i g Q) : gm_Wp X LX 280 bc bs 370 735 L [] (245 + 4 * g) K R M Q := by
  obtain ⟨N, lw, A, im, t, w, f, hM⟩ := hM
  refine gm_sz (gm_p_load (pc := 735) (i := .aload_n 1) (sr := 2) (j := 1) (by decide +kernel) rfl hL.2.2.1 rfl) ?_
  refine mn_arg (pc := 736) (j := 1) (by decide +kernel) (by decide +kernel) (by decide +kernel) (by decide +kernel) (by decide +kernel) hL hi (by decide) hLX ?_
  refine mn_arg (pc := 742) (j := 2) (by decide +kernel) (by decide +kernel) (by decide +kernel) (by decide +kernel) (by decide +kernel) hL hi (by decide) hLX ?_
  refine gm_sz (gm_p_load (pc := 748) (i := .aload_n 3) (sr := 2) (j := 3) (by decide +kernel) rfl hL.2.2.2.2.1 rfl) ?_
  refine ow_watch (pc := 749) (ix := 192) (st := []) hb (by omega) hM (by decide +kernel) (by decide +kernel) (Nat.le_of_ble_eq_true rfl) ax_watch_s al_watch_s ax_watch_c al_watch_c ax_watch_v al_watch_v (bc_in1 (mn_w (hX _)) (bc_in1 (mn_w (hX _)) bc_in0)) (hX _) (hX _) (by omega) (by omega) ?_
  intro la1 K1 R1 M1 hb1 hM1 hv1
  show gm_Wp X LX 280 _ _ 370 752 L [gm_vi ((ap_watch N A (X (i + 1)) (X (i + 2))).1)] (245 + 4 * g) K1 R1 M1 Q
  refine gm_sz (gm_p_stor (pc := 752) (i := .istore 5) (sr := 0) (j := 5) (by decide +kernel) rfl (by show 5 + 0 < L.length; have := hL.1; omega) rfl) ?_
  have hL5 := mn_L_s (y := (ap_watch N A (X (i + 1)) (X (i + 2))).1) hL (j := 5) (Or.inl rfl)
  have l55 := mn_l5 (y := (ap_watch N A (X (i + 1)) (X (i + 2))).1) hL
  generalize gm_lst L 5 (gm_vi (ap_watch N A (X (i + 1)) (X (i + 2))).1) = L5 at hL5 l55 ⊢
  refine gm_sz (gm_p_load (pc := 754) (i := .aload_n 2) (sr := 2) (j := 2) (by decide +kernel) rfl hL5.2.2.2.1 rfl) ?_
  refine mn_arg (pc := 755) (j := 1) (by decide +kernel) (by decide +kernel) (by decide +kernel) (by decide +kernel) (by decide +kernel) hL5 hi (by decide) hLX ?_
  refine mn_arg (pc := 761) (j := 2) (by decide +kernel) (by decide +kernel) (by decide +kernel) (by decide +kernel) (by decide +kernel) hL5 hi (by decide) hLX ?_
  refine om_watch (pc := 767) (ix := 194) (st := []) hb1 (by omega) hM1 (by decide +kernel) (by decide +kernel) (Nat.le_of_ble_eq_true rfl) am_watch_s am_watch_c am_watch_v (bc_in1 (mn_w (hX _)) (bc_in1 (mn_w (hX _)) bc_in0)) (hX _) (hX _) (by omega) (by omega) ?_
  intro u2 la2 K2 R2 M2 hu2 hb2 hM2 h245 hth2
  obtain ⟨y2, rfl, hy2⟩ := hu2
  show gm_Wp X LX 280 _ _ 370 770 L5 [gm_vi y2] (245 + 4 * g) K2 R2 M2 Q
  refine gm_sz (gm_p_stor (pc := 770) (i := .istore 6) (sr := 0) (j := 6) (by decide +kernel) rfl (by show 6 + 0 < L5.length; have := hL5.1; omega) rfl) ?_
  have hL6 := mn_L_s (y := y2) hL5 (j := 6) (Or.inr rfl)
  have l66 := mn_l6 (y := y2) hL5
  have l65 := mn_l65 (y := y2) l55
  generalize gm_lst L5 6 (gm_vi y2) = L6 at hL6 l66 l65 ⊢
  refine gm_sz (gm_p_goto (pc := 772) (off := 1221) (by decide +kernel) (by decide)) ?_
  exact gm_Wp_wk (Nat.le_refl _) (by omega) (by omega) (rest g _ _ _ _ L6 hb2 (by omega) ⟨_, _, _, _, _, _, _, hM2⟩ hL6)
theorem mc_14 (hb : bg g la K R M) (hg : g < 9990) (hM : RELW la K M) (hL : mn_L i L) (hi : 0 ≤ i ∧ i + 6 ≤ (LX : Int)) (hLX : LX ≤ 3072) (hX : ∀ j, gm_ir (X j)) (hbc : 12 ≤ bc) (hbs : 1200 ≤ bs) (rest : mn_R X LX bc bs i g Q) : gm_Wp X LX 280 bc bs 370 775 L [] (245 + 4 * g) K R M Q := by
  obtain ⟨N, lw, A, im, t, w, f, hM⟩ := hM
  refine gm_sz (gm_p_load (pc := 775) (i := .aload_n 1) (sr := 2) (j := 1) (by decide +kernel) rfl hL.2.2.1 rfl) ?_
  refine mn_arg (pc := 776) (j := 1) (by decide +kernel) (by decide +kernel) (by decide +kernel) (by decide +kernel) (by decide +kernel) hL hi (by decide) hLX ?_
  refine gm_sz (gm_p_load (pc := 782) (i := .aload_n 3) (sr := 2) (j := 3) (by decide +kernel) rfl hL.2.2.2.2.1 rfl) ?_
  refine ow_open (pc := 783) (ix := 195) (st := []) hb (by omega) hM (by decide +kernel) (by decide +kernel) (Nat.le_of_ble_eq_true rfl) ax_open_s al_open_s ax_open_c al_open_c ax_open_v al_open_v (bc_in1 (mn_w (hX _)) bc_in0) (hX _) (by omega) (by omega) ?_
  intro la1 K1 R1 M1 hb1 hM1 hv1
  show gm_Wp X LX 280 _ _ 370 786 L [gm_vi ((ap_open lw N A (X (i + 1))).1)] (245 + 4 * g) K1 R1 M1 Q
  refine gm_sz (gm_p_stor (pc := 786) (i := .istore 5) (sr := 0) (j := 5) (by decide +kernel) rfl (by show 5 + 0 < L.length; have := hL.1; omega) rfl) ?_
  have hL5 := mn_L_s (y := (ap_open lw N A (X (i + 1))).1) hL (j := 5) (Or.inl rfl)
  have l55 := mn_l5 (y := (ap_open lw N A (X (i + 1))).1) hL
  generalize gm_lst L 5 (gm_vi (ap_open lw N A (X (i + 1))).1) = L5 at hL5 l55 ⊢
  refine gm_sz (gm_p_load (pc := 788) (i := .aload_n 2) (sr := 2) (j := 2) (by decide +kernel) rfl hL5.2.2.2.1 rfl) ?_
  refine mn_arg (pc := 789) (j := 1) (by decide +kernel) (by decide +kernel) (by decide +kernel) (by decide +kernel) (by decide +kernel) hL5 hi (by decide) hLX ?_
  refine om_open (pc := 795) (ix := 197) (st := []) hb1 (by omega) hM1 (by decide +kernel) (by decide +kernel) (Nat.le_of_ble_eq_true rfl) am_open_s am_open_c am_open_v (bc_in1 (mn_w (hX _)) bc_in0) (hX _) (by omega) (by omega) ?_
  intro u2 la2 K2 R2 M2 hu2 hb2 hM2 h245 hth2
  obtain ⟨y2, rfl, hy2⟩ := hu2
  show gm_Wp X LX 280 _ _ 370 798 L5 [gm_vi y2] (245 + 4 * g) K2 R2 M2 Q
  refine gm_sz (gm_p_stor (pc := 798) (i := .istore 6) (sr := 0) (j := 6) (by decide +kernel) rfl (by show 6 + 0 < L5.length; have := hL5.1; omega) rfl) ?_
  have hL6 := mn_L_s (y := y2) hL5 (j := 6) (Or.inr rfl)
  have l66 := mn_l6 (y := y2) hL5
  have l65 := mn_l65 (y := y2) l55
  generalize gm_lst L5 6 (gm_vi y2) = L6 at hL6 l66 l65 ⊢
  refine gm_sz (gm_p_goto (pc := 800) (off := 1193) (by decide +kernel) (by decide)) ?_
  exact gm_Wp_wk (Nat.le_refl _) (by omega) (by omega) (rest g _ _ _ _ L6 hb2 (by omega) ⟨_, _, _, _, _, _, _, hM2⟩ hL6)
theorem mc_15 (hb : bg g la K R M) (hg : g < 9990) (hM : RELW la K M) (hL : mn_L i L) (hi : 0 ≤ i ∧ i + 6 ≤ (LX : Int)) (hLX : LX ≤ 3072) (hX : ∀ j, gm_ir (X j)) (hbc : 12 ≤ bc) (hbs : 1200 ≤ bs) (rest : mn_R X LX bc bs i g Q) : gm_Wp X LX 280 bc bs 370 803 L [] (245 + 4 * g) K R M Q := by
  obtain ⟨N, lw, A, im, t, w, f, hM⟩ := hM
  refine gm_sz (gm_p_load (pc := 803) (i := .aload_n 1) (sr := 2) (j := 1) (by decide +kernel) rfl hL.2.2.1 rfl) ?_
  refine mn_arg (pc := 804) (j := 1) (by decide +kernel) (by decide +kernel) (by decide +kernel) (by decide +kernel) (by decide +kernel) hL hi (by decide) hLX ?_
  refine gm_sz (gm_p_load (pc := 810) (i := .aload_n 3) (sr := 2) (j := 3) (by decide +kernel) rfl hL.2.2.2.2.1 rfl) ?_
  refine ow_years (pc := 811) (ix := 198) (st := []) hb (by omega) hM (by decide +kernel) (by decide +kernel) (Nat.le_of_ble_eq_true rfl) ax_years_s al_years_s ax_years_c al_years_c ax_years_v al_years_v (bc_in1 (mn_w (hX _)) bc_in0) (hX _) (by omega) (by omega) ?_
  intro la1 K1 R1 M1 hb1 hM1 hv1
  show gm_Wp X LX 280 _ _ 370 814 L [gm_vi ((ap_years lw N A (X (i + 1))).1)] (245 + 4 * g) K1 R1 M1 Q
  refine gm_sz (gm_p_stor (pc := 814) (i := .istore 5) (sr := 0) (j := 5) (by decide +kernel) rfl (by show 5 + 0 < L.length; have := hL.1; omega) rfl) ?_
  have hL5 := mn_L_s (y := (ap_years lw N A (X (i + 1))).1) hL (j := 5) (Or.inl rfl)
  have l55 := mn_l5 (y := (ap_years lw N A (X (i + 1))).1) hL
  generalize gm_lst L 5 (gm_vi (ap_years lw N A (X (i + 1))).1) = L5 at hL5 l55 ⊢
  refine gm_sz (gm_p_load (pc := 816) (i := .aload_n 2) (sr := 2) (j := 2) (by decide +kernel) rfl hL5.2.2.2.1 rfl) ?_
  refine mn_arg (pc := 817) (j := 1) (by decide +kernel) (by decide +kernel) (by decide +kernel) (by decide +kernel) (by decide +kernel) hL5 hi (by decide) hLX ?_
  refine om_years (pc := 823) (ix := 200) (st := []) hb1 (by omega) hM1 (by decide +kernel) (by decide +kernel) (Nat.le_of_ble_eq_true rfl) am_years_s am_years_c am_years_v (bc_in1 (mn_w (hX _)) bc_in0) (hX _) (by omega) (by omega) ?_
  intro u2 la2 K2 R2 M2 hu2 hb2 hM2 h245 hth2
  obtain ⟨y2, rfl, hy2⟩ := hu2
  show gm_Wp X LX 280 _ _ 370 826 L5 [gm_vi y2] (245 + 4 * g) K2 R2 M2 Q
  refine gm_sz (gm_p_stor (pc := 826) (i := .istore 6) (sr := 0) (j := 6) (by decide +kernel) rfl (by show 6 + 0 < L5.length; have := hL5.1; omega) rfl) ?_
  have hL6 := mn_L_s (y := y2) hL5 (j := 6) (Or.inr rfl)
  have l66 := mn_l6 (y := y2) hL5
  have l65 := mn_l65 (y := y2) l55
  generalize gm_lst L5 6 (gm_vi y2) = L6 at hL6 l66 l65 ⊢
  refine gm_sz (gm_p_goto (pc := 828) (off := 1165) (by decide +kernel) (by decide)) ?_
  exact gm_Wp_wk (Nat.le_refl _) (by omega) (by omega) (rest g _ _ _ _ L6 hb2 (by omega) ⟨_, _, _, _, _, _, _, hM2⟩ hL6)
end MCC
end
/-! 7d02.mc -/
section
/-! THE LAW'S CASES, on. -/
section MCC
variable {X : Int → Int} {LX g bc bs : Nat} {i : Int} {la : Nat → Nat} {K : gm_K} {R : gm_R} {M : gm_M} {Q : gm_Q} {L : gm_L}
theorem mc_16 (hb : bg g la K R M) (hg : g < 9990) (hM : RELW la K M) (hL : mn_L i L) (hi : 0 ≤ i ∧ i + 6 ≤ (LX : Int)) (hLX : LX ≤ 3072) (hX : ∀ j, gm_ir (X j)) (hbc : 12 ≤ bc) (hbs : 1200 ≤ bs) (rest : mn_R X LX bc bs i g Q) : gm_Wp X LX 280 bc bs 370 831 L [] (245 + 4 * g) K R M Q := by
  obtain ⟨N, lw, A, im, t, w, f, hM⟩ := hM
  refine gm_sz (gm_p_load (pc := 831) (i := .aload_n 1) (sr := 2) (j := 1) (by decide +kernel) rfl hL.2.2.1 rfl) ?_
  refine mn_arg (pc := 832) (j := 1) (by decide +kernel) (by decide +kernel) (by decide +kernel) (by decide +kernel) (by decide +kernel) hL hi (by decide) hLX ?_
  refine mn_arg (pc := 838) (j := 2) (by decide +kernel) (by decide +kernel) (by decide +kernel) (by decide +kernel) (by decide +kernel) hL hi (by decide) hLX ?_
  refine mn_arg (pc := 844) (j := 3) (by decide +kernel) (by decide +kernel) (by decide +kernel) (by decide +kernel) (by decide +kernel) hL hi (by decide) hLX ?_
  refine mn_arg (pc := 850) (j := 4) (by decide +kernel) (by decide +kernel) (by decide +kernel) (by decide +kernel) (by decide +kernel) hL hi (by decide) hLX ?_
  refine gm_sz (gm_p_load (pc := 856) (i := .aload_n 3) (sr := 2) (j := 3) (by decide +kernel) rfl hL.2.2.2.2.1 rfl) ?_
  refine rq_x (pc := 857) (ix := 201) (mj := 166) (xs := [X (i + 1), X (i + 2), X (i + 3), X (i + 4)]) (st := []) (ds := [(-2147483648, 2147483647), (-2147483648, 2147483647), (-2147483648, 2147483647), (-2147483648, 2147483647)]) (r := true) hb (by omega) hM (by decide +kernel) (by decide +kernel) (by decide +kernel) (by decide +kernel) (show 6 = gm_na 166 by decide +kernel) (show 6 ≤ gm_ml 166 by decide +kernel) (Nat.le_of_ble_eq_true rfl) ax_throwsFor_s al_throwsFor_s ax_throwsFor_c al_throwsFor_c ax_throwsFor_v al_throwsFor_v (bc_in1 (mn_w (hX _)) (bc_in1 (mn_w (hX _)) (bc_in1 (mn_w (hX _)) (bc_in1 (mn_w (hX _)) bc_in0)))) (List.forall_mem_cons.mpr ⟨hX _, (List.forall_mem_cons.mpr ⟨hX _, (List.forall_mem_cons.mpr ⟨hX _, (List.forall_mem_cons.mpr ⟨hX _, (fun _ h => nomatch h)⟩)⟩)⟩)⟩) (by omega) (by omega) ?_
  intro u1 la1 K1 R1 M1 hu1 hb1 hM1
  obtain ⟨y1, rfl⟩ : ∃ y, u1 = some (gm_vi y) := hu1
  show gm_Wp X LX 280 _ _ 370 860 L [gm_vi y1] (245 + 4 * g) K1 R1 M1 Q
  refine gm_sz (gm_p_stor (pc := 860) (i := .istore 5) (sr := 0) (j := 5) (by decide +kernel) rfl (by show 5 + 0 < L.length; have := hL.1; omega) rfl) ?_
  have hL5 := mn_L_s (y := y1) hL (j := 5) (Or.inl rfl)
  have l55 := mn_l5 (y := y1) hL
  generalize gm_lst L 5 (gm_vi y1) = L5 at hL5 l55 ⊢
  refine gm_sz (gm_p_load (pc := 862) (i := .aload_n 2) (sr := 2) (j := 2) (by decide +kernel) rfl hL5.2.2.2.1 rfl) ?_
  refine mn_arg (pc := 863) (j := 1) (by decide +kernel) (by decide +kernel) (by decide +kernel) (by decide +kernel) (by decide +kernel) hL5 hi (by decide) hLX ?_
  refine mn_arg (pc := 869) (j := 2) (by decide +kernel) (by decide +kernel) (by decide +kernel) (by decide +kernel) (by decide +kernel) hL5 hi (by decide) hLX ?_
  refine mn_arg (pc := 875) (j := 3) (by decide +kernel) (by decide +kernel) (by decide +kernel) (by decide +kernel) (by decide +kernel) hL5 hi (by decide) hLX ?_
  refine mn_arg (pc := 881) (j := 4) (by decide +kernel) (by decide +kernel) (by decide +kernel) (by decide +kernel) (by decide +kernel) hL5 hi (by decide) hLX ?_
  refine rq_m (pc := 887) (ix := 204) (mj := 324) (xs := [X (i + 1), X (i + 2), X (i + 3), X (i + 4)]) (st := []) (ds := [(-2147483648, 2147483647), (-2147483648, 2147483647), (-2147483648, 2147483647), (-2147483648, 2147483647)]) (r := true) hb1 (by omega) hM1 (by decide +kernel) (by decide +kernel) (by decide +kernel) (by decide +kernel) (show 4 = gm_na 324 by decide +kernel) (show 5 ≤ gm_ml 324 by decide +kernel) (Nat.le_of_ble_eq_true rfl) am_throwsFor_s am_throwsFor_c am_throwsFor_v (bc_in1 (mn_w (hX _)) (bc_in1 (mn_w (hX _)) (bc_in1 (mn_w (hX _)) (bc_in1 (mn_w (hX _)) bc_in0)))) (List.forall_mem_cons.mpr ⟨hX _, (List.forall_mem_cons.mpr ⟨hX _, (List.forall_mem_cons.mpr ⟨hX _, (List.forall_mem_cons.mpr ⟨hX _, (fun _ h => nomatch h)⟩)⟩)⟩)⟩) (by omega) (by omega) ?_
  intro u2 la2 K2 R2 M2 hu2 hb2 hM2
  obtain ⟨y2, rfl⟩ : ∃ y, u2 = some (gm_vi y) := hu2
  show gm_Wp X LX 280 _ _ 370 890 L5 [gm_vi y2] (245 + 4 * g) K2 R2 M2 Q
  refine gm_sz (gm_p_stor (pc := 890) (i := .istore 6) (sr := 0) (j := 6) (by decide +kernel) rfl (by show 6 + 0 < L5.length; have := hL5.1; omega) rfl) ?_
  have hL6 := mn_L_s (y := y2) hL5 (j := 6) (Or.inr rfl)
  have l66 := mn_l6 (y := y2) hL5
  have l65 := mn_l65 (y := y2) l55
  generalize gm_lst L5 6 (gm_vi y2) = L6 at hL6 l66 l65 ⊢
  refine gm_sz (gm_p_goto (pc := 892) (off := 1101) (by decide +kernel) (by decide)) ?_
  exact gm_Wp_wk (Nat.le_refl _) (by omega) (by omega) (rest g _ _ _ _ L6 hb2 (by omega) ⟨_, _, _, _, _, _, _, hM2⟩ hL6)
theorem mc_17 (hb : bg g la K R M) (hg : g < 9990) (hM : RELW la K M) (hL : mn_L i L) (hi : 0 ≤ i ∧ i + 6 ≤ (LX : Int)) (hLX : LX ≤ 3072) (hX : ∀ j, gm_ir (X j)) (hbc : 12 ≤ bc) (hbs : 1200 ≤ bs) (rest : mn_R X LX bc bs i g Q) : gm_Wp X LX 280 bc bs 370 895 L [] (245 + 4 * g) K R M Q := by
  obtain ⟨N, lw, A, im, t, w, f, hM⟩ := hM
  refine gm_sz (gm_p_load (pc := 895) (i := .aload_n 1) (sr := 2) (j := 1) (by decide +kernel) rfl hL.2.2.1 rfl) ?_
  refine mn_arg (pc := 896) (j := 1) (by decide +kernel) (by decide +kernel) (by decide +kernel) (by decide +kernel) (by decide +kernel) hL hi (by decide) hLX ?_
  refine mn_arg (pc := 902) (j := 2) (by decide +kernel) (by decide +kernel) (by decide +kernel) (by decide +kernel) (by decide +kernel) hL hi (by decide) hLX ?_
  refine gm_sz (gm_p_load (pc := 908) (i := .aload_n 3) (sr := 2) (j := 3) (by decide +kernel) rfl hL.2.2.2.2.1 rfl) ?_
  refine rq_x (pc := 909) (ix := 205) (mj := 168) (xs := [X (i + 1), X (i + 2)]) (st := []) (ds := [(-2147483648, 2147483647), (-2147483648, 2147483647)]) (r := true) hb (by omega) hM (by decide +kernel) (by decide +kernel) (by decide +kernel) (by decide +kernel) (show 4 = gm_na 168 by decide +kernel) (show 4 ≤ gm_ml 168 by decide +kernel) (Nat.le_of_ble_eq_true rfl) ax_latest_s al_latest_s ax_latest_c al_latest_c ax_latest_v al_latest_v (bc_in1 (mn_w (hX _)) (bc_in1 (mn_w (hX _)) bc_in0)) (List.forall_mem_cons.mpr ⟨hX _, (List.forall_mem_cons.mpr ⟨hX _, (fun _ h => nomatch h)⟩)⟩) (by omega) (by omega) ?_
  intro u1 la1 K1 R1 M1 hu1 hb1 hM1
  obtain ⟨y1, rfl⟩ : ∃ y, u1 = some (gm_vi y) := hu1
  show gm_Wp X LX 280 _ _ 370 912 L [gm_vi y1] (245 + 4 * g) K1 R1 M1 Q
  refine gm_sz (gm_p_stor (pc := 912) (i := .istore 5) (sr := 0) (j := 5) (by decide +kernel) rfl (by show 5 + 0 < L.length; have := hL.1; omega) rfl) ?_
  have hL5 := mn_L_s (y := y1) hL (j := 5) (Or.inl rfl)
  have l55 := mn_l5 (y := y1) hL
  generalize gm_lst L 5 (gm_vi y1) = L5 at hL5 l55 ⊢
  refine gm_sz (gm_p_load (pc := 914) (i := .aload_n 2) (sr := 2) (j := 2) (by decide +kernel) rfl hL5.2.2.2.1 rfl) ?_
  refine mn_arg (pc := 915) (j := 1) (by decide +kernel) (by decide +kernel) (by decide +kernel) (by decide +kernel) (by decide +kernel) hL5 hi (by decide) hLX ?_
  refine mn_arg (pc := 921) (j := 2) (by decide +kernel) (by decide +kernel) (by decide +kernel) (by decide +kernel) (by decide +kernel) hL5 hi (by decide) hLX ?_
  refine rq_m (pc := 927) (ix := 207) (mj := 326) (xs := [X (i + 1), X (i + 2)]) (st := []) (ds := [(-2147483648, 2147483647), (-2147483648, 2147483647)]) (r := true) hb1 (by omega) hM1 (by decide +kernel) (by decide +kernel) (by decide +kernel) (by decide +kernel) (show 2 = gm_na 326 by decide +kernel) (show 3 ≤ gm_ml 326 by decide +kernel) (Nat.le_of_ble_eq_true rfl) am_latest_s am_latest_c am_latest_v (bc_in1 (mn_w (hX _)) (bc_in1 (mn_w (hX _)) bc_in0)) (List.forall_mem_cons.mpr ⟨hX _, (List.forall_mem_cons.mpr ⟨hX _, (fun _ h => nomatch h)⟩)⟩) (by omega) (by omega) ?_
  intro u2 la2 K2 R2 M2 hu2 hb2 hM2
  obtain ⟨y2, rfl⟩ : ∃ y, u2 = some (gm_vi y) := hu2
  show gm_Wp X LX 280 _ _ 370 930 L5 [gm_vi y2] (245 + 4 * g) K2 R2 M2 Q
  refine gm_sz (gm_p_stor (pc := 930) (i := .istore 6) (sr := 0) (j := 6) (by decide +kernel) rfl (by show 6 + 0 < L5.length; have := hL5.1; omega) rfl) ?_
  have hL6 := mn_L_s (y := y2) hL5 (j := 6) (Or.inr rfl)
  have l66 := mn_l6 (y := y2) hL5
  have l65 := mn_l65 (y := y2) l55
  generalize gm_lst L5 6 (gm_vi y2) = L6 at hL6 l66 l65 ⊢
  refine gm_sz (gm_p_goto (pc := 932) (off := 1061) (by decide +kernel) (by decide)) ?_
  exact gm_Wp_wk (Nat.le_refl _) (by omega) (by omega) (rest g _ _ _ _ L6 hb2 (by omega) ⟨_, _, _, _, _, _, _, hM2⟩ hL6)
theorem mc_18 (hb : bg g la K R M) (hg : g < 9990) (hM : RELW la K M) (hL : mn_L i L) (hi : 0 ≤ i ∧ i + 6 ≤ (LX : Int)) (hLX : LX ≤ 3072) (hX : ∀ j, gm_ir (X j)) (hbc : 12 ≤ bc) (hbs : 1200 ≤ bs) (rest : mn_R X LX bc bs i g Q) : gm_Wp X LX 280 bc bs 370 935 L [] (245 + 4 * g) K R M Q := by
  obtain ⟨N, lw, A, im, t, w, f, hM⟩ := hM
  refine gm_sz (gm_p_load (pc := 935) (i := .aload_n 1) (sr := 2) (j := 1) (by decide +kernel) rfl hL.2.2.1 rfl) ?_
  refine mn_arg (pc := 936) (j := 1) (by decide +kernel) (by decide +kernel) (by decide +kernel) (by decide +kernel) (by decide +kernel) hL hi (by decide) hLX ?_
  refine mn_arg (pc := 942) (j := 2) (by decide +kernel) (by decide +kernel) (by decide +kernel) (by decide +kernel) (by decide +kernel) hL hi (by decide) hLX ?_
  refine gm_sz (gm_p_load (pc := 948) (i := .aload_n 3) (sr := 2) (j := 3) (by decide +kernel) rfl hL.2.2.2.2.1 rfl) ?_
  refine rq_x (pc := 949) (ix := 208) (mj := 171) (xs := [X (i + 1), X (i + 2)]) (st := []) (ds := [(-2147483648, 2147483647), (-2147483648, 2147483647)]) (r := true) hb (by omega) hM (by decide +kernel) (by decide +kernel) (by decide +kernel) (by decide +kernel) (show 4 = gm_na 171 by decide +kernel) (show 4 ≤ gm_ml 171 by decide +kernel) (Nat.le_of_ble_eq_true rfl) ax_hut_s al_hut_s ax_hut_c al_hut_c ax_hut_v al_hut_v (bc_in1 (mn_w (hX _)) (bc_in1 (mn_w (hX _)) bc_in0)) (List.forall_mem_cons.mpr ⟨hX _, (List.forall_mem_cons.mpr ⟨hX _, (fun _ h => nomatch h)⟩)⟩) (by omega) (by omega) ?_
  intro u1 la1 K1 R1 M1 hu1 hb1 hM1
  obtain ⟨y1, rfl⟩ : ∃ y, u1 = some (gm_vi y) := hu1
  show gm_Wp X LX 280 _ _ 370 952 L [gm_vi y1] (245 + 4 * g) K1 R1 M1 Q
  refine gm_sz (gm_p_stor (pc := 952) (i := .istore 5) (sr := 0) (j := 5) (by decide +kernel) rfl (by show 5 + 0 < L.length; have := hL.1; omega) rfl) ?_
  have hL5 := mn_L_s (y := y1) hL (j := 5) (Or.inl rfl)
  have l55 := mn_l5 (y := y1) hL
  generalize gm_lst L 5 (gm_vi y1) = L5 at hL5 l55 ⊢
  refine gm_sz (gm_p_load (pc := 954) (i := .aload_n 2) (sr := 2) (j := 2) (by decide +kernel) rfl hL5.2.2.2.1 rfl) ?_
  refine mn_arg (pc := 955) (j := 1) (by decide +kernel) (by decide +kernel) (by decide +kernel) (by decide +kernel) (by decide +kernel) hL5 hi (by decide) hLX ?_
  refine mn_arg (pc := 961) (j := 2) (by decide +kernel) (by decide +kernel) (by decide +kernel) (by decide +kernel) (by decide +kernel) hL5 hi (by decide) hLX ?_
  refine rq_m (pc := 967) (ix := 210) (mj := 327) (xs := [X (i + 1), X (i + 2)]) (st := []) (ds := [(-2147483648, 2147483647), (-2147483648, 2147483647)]) (r := true) hb1 (by omega) hM1 (by decide +kernel) (by decide +kernel) (by decide +kernel) (by decide +kernel) (show 2 = gm_na 327 by decide +kernel) (show 3 ≤ gm_ml 327 by decide +kernel) (Nat.le_of_ble_eq_true rfl) am_hut_s am_hut_c am_hut_v (bc_in1 (mn_w (hX _)) (bc_in1 (mn_w (hX _)) bc_in0)) (List.forall_mem_cons.mpr ⟨hX _, (List.forall_mem_cons.mpr ⟨hX _, (fun _ h => nomatch h)⟩)⟩) (by omega) (by omega) ?_
  intro u2 la2 K2 R2 M2 hu2 hb2 hM2
  obtain ⟨y2, rfl⟩ : ∃ y, u2 = some (gm_vi y) := hu2
  show gm_Wp X LX 280 _ _ 370 970 L5 [gm_vi y2] (245 + 4 * g) K2 R2 M2 Q
  refine gm_sz (gm_p_stor (pc := 970) (i := .istore 6) (sr := 0) (j := 6) (by decide +kernel) rfl (by show 6 + 0 < L5.length; have := hL5.1; omega) rfl) ?_
  have hL6 := mn_L_s (y := y2) hL5 (j := 6) (Or.inr rfl)
  have l66 := mn_l6 (y := y2) hL5
  have l65 := mn_l65 (y := y2) l55
  generalize gm_lst L5 6 (gm_vi y2) = L6 at hL6 l66 l65 ⊢
  refine gm_sz (gm_p_goto (pc := 972) (off := 1021) (by decide +kernel) (by decide)) ?_
  exact gm_Wp_wk (Nat.le_refl _) (by omega) (by omega) (rest g _ _ _ _ L6 hb2 (by omega) ⟨_, _, _, _, _, _, _, hM2⟩ hL6)
theorem mc_19 (hb : bg g la K R M) (hg : g < 9990) (hM : RELW la K M) (hL : mn_L i L) (hi : 0 ≤ i ∧ i + 6 ≤ (LX : Int)) (hLX : LX ≤ 3072) (hX : ∀ j, gm_ir (X j)) (hbc : 12 ≤ bc) (hbs : 1200 ≤ bs) (rest : mn_R X LX bc bs i g Q) : gm_Wp X LX 280 bc bs 370 975 L [] (245 + 4 * g) K R M Q := by
  obtain ⟨N, lw, A, im, t, w, f, hM⟩ := hM
  refine gm_sz (gm_p_load (pc := 975) (i := .aload_n 1) (sr := 2) (j := 1) (by decide +kernel) rfl hL.2.2.1 rfl) ?_
  refine mn_arg (pc := 976) (j := 1) (by decide +kernel) (by decide +kernel) (by decide +kernel) (by decide +kernel) (by decide +kernel) hL hi (by decide) hLX ?_
  refine mn_arg (pc := 982) (j := 2) (by decide +kernel) (by decide +kernel) (by decide +kernel) (by decide +kernel) (by decide +kernel) hL hi (by decide) hLX ?_
  refine gm_sz (gm_p_load (pc := 988) (i := .aload_n 3) (sr := 2) (j := 3) (by decide +kernel) rfl hL.2.2.2.2.1 rfl) ?_
  refine rq_x (pc := 989) (ix := 211) (mj := 173) (xs := [X (i + 1), X (i + 2)]) (st := []) (ds := [(-2147483648, 2147483647), (-2147483648, 2147483647)]) (r := true) hb (by omega) hM (by decide +kernel) (by decide +kernel) (by decide +kernel) (by decide +kernel) (show 4 = gm_na 173 by decide +kernel) (show 4 ≤ gm_ml 173 by decide +kernel) (Nat.le_of_ble_eq_true rfl) ax_without_s al_without_s ax_without_c al_without_c ax_without_v al_without_v (bc_in1 (mn_w (hX _)) (bc_in1 (mn_w (hX _)) bc_in0)) (List.forall_mem_cons.mpr ⟨hX _, (List.forall_mem_cons.mpr ⟨hX _, (fun _ h => nomatch h)⟩)⟩) (by omega) (by omega) ?_
  intro u1 la1 K1 R1 M1 hu1 hb1 hM1
  obtain ⟨y1, rfl⟩ : ∃ y, u1 = some (gm_vi y) := hu1
  show gm_Wp X LX 280 _ _ 370 992 L [gm_vi y1] (245 + 4 * g) K1 R1 M1 Q
  refine gm_sz (gm_p_stor (pc := 992) (i := .istore 5) (sr := 0) (j := 5) (by decide +kernel) rfl (by show 5 + 0 < L.length; have := hL.1; omega) rfl) ?_
  have hL5 := mn_L_s (y := y1) hL (j := 5) (Or.inl rfl)
  have l55 := mn_l5 (y := y1) hL
  generalize gm_lst L 5 (gm_vi y1) = L5 at hL5 l55 ⊢
  refine gm_sz (gm_p_load (pc := 994) (i := .aload_n 2) (sr := 2) (j := 2) (by decide +kernel) rfl hL5.2.2.2.1 rfl) ?_
  refine mn_arg (pc := 995) (j := 1) (by decide +kernel) (by decide +kernel) (by decide +kernel) (by decide +kernel) (by decide +kernel) hL5 hi (by decide) hLX ?_
  refine mn_arg (pc := 1001) (j := 2) (by decide +kernel) (by decide +kernel) (by decide +kernel) (by decide +kernel) (by decide +kernel) hL5 hi (by decide) hLX ?_
  refine rq_m (pc := 1007) (ix := 213) (mj := 328) (xs := [X (i + 1), X (i + 2)]) (st := []) (ds := [(-2147483648, 2147483647), (-2147483648, 2147483647)]) (r := true) hb1 (by omega) hM1 (by decide +kernel) (by decide +kernel) (by decide +kernel) (by decide +kernel) (show 2 = gm_na 328 by decide +kernel) (show 3 ≤ gm_ml 328 by decide +kernel) (Nat.le_of_ble_eq_true rfl) am_without_s am_without_c am_without_v (bc_in1 (mn_w (hX _)) (bc_in1 (mn_w (hX _)) bc_in0)) (List.forall_mem_cons.mpr ⟨hX _, (List.forall_mem_cons.mpr ⟨hX _, (fun _ h => nomatch h)⟩)⟩) (by omega) (by omega) ?_
  intro u2 la2 K2 R2 M2 hu2 hb2 hM2
  obtain ⟨y2, rfl⟩ : ∃ y, u2 = some (gm_vi y) := hu2
  show gm_Wp X LX 280 _ _ 370 1010 L5 [gm_vi y2] (245 + 4 * g) K2 R2 M2 Q
  refine gm_sz (gm_p_stor (pc := 1010) (i := .istore 6) (sr := 0) (j := 6) (by decide +kernel) rfl (by show 6 + 0 < L5.length; have := hL5.1; omega) rfl) ?_
  have hL6 := mn_L_s (y := y2) hL5 (j := 6) (Or.inr rfl)
  have l66 := mn_l6 (y := y2) hL5
  have l65 := mn_l65 (y := y2) l55
  generalize gm_lst L5 6 (gm_vi y2) = L6 at hL6 l66 l65 ⊢
  refine gm_sz (gm_p_goto (pc := 1012) (off := 981) (by decide +kernel) (by decide)) ?_
  exact gm_Wp_wk (Nat.le_refl _) (by omega) (by omega) (rest g _ _ _ _ L6 hb2 (by omega) ⟨_, _, _, _, _, _, _, hM2⟩ hL6)
theorem mc_20 (hb : bg g la K R M) (hg : g < 9990) (hM : RELW la K M) (hL : mn_L i L) (hi : 0 ≤ i ∧ i + 6 ≤ (LX : Int)) (hLX : LX ≤ 3072) (hX : ∀ j, gm_ir (X j)) (hbc : 12 ≤ bc) (hbs : 1200 ≤ bs) (rest : mn_R X LX bc bs i g Q) : gm_Wp X LX 280 bc bs 370 1015 L [] (245 + 4 * g) K R M Q := by
  obtain ⟨N, lw, A, im, t, w, f, hM⟩ := hM
  refine gm_sz (gm_p_load (pc := 1015) (i := .aload_n 1) (sr := 2) (j := 1) (by decide +kernel) rfl hL.2.2.1 rfl) ?_
  refine mn_arg (pc := 1016) (j := 1) (by decide +kernel) (by decide +kernel) (by decide +kernel) (by decide +kernel) (by decide +kernel) hL hi (by decide) hLX ?_
  refine gm_sz (gm_p_load (pc := 1022) (i := .aload_n 3) (sr := 2) (j := 3) (by decide +kernel) rfl hL.2.2.2.2.1 rfl) ?_
  refine rq_x (pc := 1023) (ix := 214) (mj := 176) (xs := [X (i + 1)]) (st := []) (ds := [(-2147483648, 2147483647)]) (r := true) hb (by omega) hM (by decide +kernel) (by decide +kernel) (by decide +kernel) (by decide +kernel) (show 3 = gm_na 176 by decide +kernel) (show 3 ≤ gm_ml 176 by decide +kernel) (Nat.le_of_ble_eq_true rfl) ax_moved_s al_moved_s ax_moved_c al_moved_c ax_moved_v al_moved_v (bc_in1 (mn_w (hX _)) bc_in0) (List.forall_mem_cons.mpr ⟨hX _, (fun _ h => nomatch h)⟩) (by omega) (by omega) ?_
  intro u1 la1 K1 R1 M1 hu1 hb1 hM1
  obtain ⟨y1, rfl⟩ : ∃ y, u1 = some (gm_vi y) := hu1
  show gm_Wp X LX 280 _ _ 370 1026 L [gm_vi y1] (245 + 4 * g) K1 R1 M1 Q
  refine gm_sz (gm_p_stor (pc := 1026) (i := .istore 5) (sr := 0) (j := 5) (by decide +kernel) rfl (by show 5 + 0 < L.length; have := hL.1; omega) rfl) ?_
  have hL5 := mn_L_s (y := y1) hL (j := 5) (Or.inl rfl)
  have l55 := mn_l5 (y := y1) hL
  generalize gm_lst L 5 (gm_vi y1) = L5 at hL5 l55 ⊢
  refine gm_sz (gm_p_load (pc := 1028) (i := .aload_n 2) (sr := 2) (j := 2) (by decide +kernel) rfl hL5.2.2.2.1 rfl) ?_
  refine mn_arg (pc := 1029) (j := 1) (by decide +kernel) (by decide +kernel) (by decide +kernel) (by decide +kernel) (by decide +kernel) hL5 hi (by decide) hLX ?_
  refine rq_m (pc := 1035) (ix := 216) (mj := 329) (xs := [X (i + 1)]) (st := []) (ds := [(-2147483648, 2147483647)]) (r := true) hb1 (by omega) hM1 (by decide +kernel) (by decide +kernel) (by decide +kernel) (by decide +kernel) (show 1 = gm_na 329 by decide +kernel) (show 2 ≤ gm_ml 329 by decide +kernel) (Nat.le_of_ble_eq_true rfl) am_moved_s am_moved_c am_moved_v (bc_in1 (mn_w (hX _)) bc_in0) (List.forall_mem_cons.mpr ⟨hX _, (fun _ h => nomatch h)⟩) (by omega) (by omega) ?_
  intro u2 la2 K2 R2 M2 hu2 hb2 hM2
  obtain ⟨y2, rfl⟩ : ∃ y, u2 = some (gm_vi y) := hu2
  show gm_Wp X LX 280 _ _ 370 1038 L5 [gm_vi y2] (245 + 4 * g) K2 R2 M2 Q
  refine gm_sz (gm_p_stor (pc := 1038) (i := .istore 6) (sr := 0) (j := 6) (by decide +kernel) rfl (by show 6 + 0 < L5.length; have := hL5.1; omega) rfl) ?_
  have hL6 := mn_L_s (y := y2) hL5 (j := 6) (Or.inr rfl)
  have l66 := mn_l6 (y := y2) hL5
  have l65 := mn_l65 (y := y2) l55
  generalize gm_lst L5 6 (gm_vi y2) = L6 at hL6 l66 l65 ⊢
  refine gm_sz (gm_p_goto (pc := 1040) (off := 953) (by decide +kernel) (by decide)) ?_
  exact gm_Wp_wk (Nat.le_refl _) (by omega) (by omega) (rest g _ _ _ _ L6 hb2 (by omega) ⟨_, _, _, _, _, _, _, hM2⟩ hL6)
theorem mc_21 (hb : bg g la K R M) (hg : g < 9990) (hM : RELW la K M) (hL : mn_L i L) (hi : 0 ≤ i ∧ i + 6 ≤ (LX : Int)) (hLX : LX ≤ 3072) (hX : ∀ j, gm_ir (X j)) (hbc : 12 ≤ bc) (hbs : 1200 ≤ bs) (rest : mn_R X LX bc bs i g Q) : gm_Wp X LX 280 bc bs 370 1043 L [] (245 + 4 * g) K R M Q := by
  obtain ⟨N, lw, A, im, t, w, f, hM⟩ := hM
  refine gm_sz (gm_p_load (pc := 1043) (i := .aload_n 1) (sr := 2) (j := 1) (by decide +kernel) rfl hL.2.2.1 rfl) ?_
  refine rq_d (pc := 1044) (ix := 217) (mj := 23) (xs := []) (st := []) (ds := []) (r := true) hb (by omega) hM (by decide +kernel) (by decide +kernel) (by decide +kernel) (by decide +kernel) (show 0 = gm_na 23 by decide +kernel) (show 1 ≤ gm_ml 23 by decide +kernel) (Nat.le_of_ble_eq_true rfl) ax_lost_s al_lost_s ax_lost_c al_lost_c ax_lost_v al_lost_v bc_in0 (fun _ h => nomatch h) (by omega) (by omega) ?_
  intro u1 la1 K1 R1 M1 hu1 hb1 hM1
  obtain ⟨y1, rfl⟩ : ∃ y, u1 = some (gm_vi y) := hu1
  show gm_Wp X LX 280 _ _ 370 1047 L [gm_vi y1] (245 + 4 * g) K1 R1 M1 Q
  refine gm_sz (gm_p_pop (pc := 1047) (by decide +kernel) (by simp [gm_sort])) ?_
  refine gm_sz (gm_p_load (pc := 1048) (i := .aload_n 2) (sr := 2) (j := 2) (by decide +kernel) rfl hL.2.2.2.1 rfl) ?_
  refine rq_m (pc := 1049) (ix := 220) (mj := 330) (xs := []) (st := []) (ds := []) (r := true) hb1 (by omega) hM1 (by decide +kernel) (by decide +kernel) (by decide +kernel) (by decide +kernel) (show 0 = gm_na 330 by decide +kernel) (show 1 ≤ gm_ml 330 by decide +kernel) (Nat.le_of_ble_eq_true rfl) am_lost_s am_lost_c am_lost_v bc_in0 (fun _ h => nomatch h) (by omega) (by omega) ?_
  intro u2 la2 K2 R2 M2 hu2 hb2 hM2
  obtain ⟨y2, rfl⟩ : ∃ y, u2 = some (gm_vi y) := hu2
  show gm_Wp X LX 280 _ _ 370 1052 L [gm_vi y2] (245 + 4 * g) K2 R2 M2 Q
  refine gm_sz (gm_p_pop (pc := 1052) (by decide +kernel) (by simp [gm_sort])) ?_
  refine gm_sz (gm_p_goto (pc := 1053) (off := 940) (by decide +kernel) (by decide)) ?_
  exact gm_Wp_wk (Nat.le_refl _) (by omega) (by omega) (rest g _ _ _ _ L hb2 (by omega) ⟨_, _, _, _, _, _, _, hM2⟩ hL)
theorem mc_22 (hb : bg g la K R M) (hg : g < 9990) (hM : RELW la K M) (hL : mn_L i L) (hi : 0 ≤ i ∧ i + 6 ≤ (LX : Int)) (hLX : LX ≤ 3072) (hX : ∀ j, gm_ir (X j)) (hbc : 12 ≤ bc) (hbs : 1200 ≤ bs) (rest : mn_R X LX bc bs i g Q) : gm_Wp X LX 280 bc bs 370 1056 L [] (245 + 4 * g) K R M Q := by
  obtain ⟨N, lw, A, im, t, w, f, hM⟩ := hM
  refine gm_sz (gm_p_load (pc := 1056) (i := .aload_n 1) (sr := 2) (j := 1) (by decide +kernel) rfl hL.2.2.1 rfl) ?_
  refine mn_arg (pc := 1057) (j := 1) (by decide +kernel) (by decide +kernel) (by decide +kernel) (by decide +kernel) (by decide +kernel) hL hi (by decide) hLX ?_
  refine mn_bool (pc := 1063) (by decide +kernel) (by decide +kernel) (by decide +kernel) (by decide +kernel) ?_
  refine rq_d (pc := 1071) (ix := 221) (mj := 46) (xs := [bz (X (i + 1))]) (st := []) (ds := [(0, 1)]) (r := true) hb (by omega) hM (by decide +kernel) (by decide +kernel) (by decide +kernel) (by decide +kernel) (show 1 = gm_na 46 by decide +kernel) (show 2 ≤ gm_ml 46 by decide +kernel) (Nat.le_of_ble_eq_true rfl) ax_market_s al_market_s ax_market_c al_market_c ax_market_v al_market_v (bc_in1 ⟨bz_0, bz_1⟩ bc_in0) (List.forall_mem_cons.mpr ⟨⟨Int.le_trans (by decide) bz_0, Int.lt_of_le_of_lt bz_1 (by decide)⟩, (fun _ h => nomatch h)⟩) (by omega) (by omega) ?_
  intro u1 la1 K1 R1 M1 hu1 hb1 hM1
  obtain ⟨y1, rfl⟩ : ∃ y, u1 = some (gm_vi y) := hu1
  show gm_Wp X LX 280 _ _ 370 1074 L [gm_vi y1] (245 + 4 * g) K1 R1 M1 Q
  refine gm_sz (gm_p_pop (pc := 1074) (by decide +kernel) (by simp [gm_sort])) ?_
  refine gm_sz (gm_p_load (pc := 1075) (i := .aload_n 2) (sr := 2) (j := 2) (by decide +kernel) rfl hL.2.2.2.1 rfl) ?_
  refine mn_arg (pc := 1076) (j := 1) (by decide +kernel) (by decide +kernel) (by decide +kernel) (by decide +kernel) (by decide +kernel) hL hi (by decide) hLX ?_
  refine mn_bool (pc := 1082) (by decide +kernel) (by decide +kernel) (by decide +kernel) (by decide +kernel) ?_
  refine rq_m (pc := 1090) (ix := 225) (mj := 331) (xs := [bz (X (i + 1))]) (st := []) (ds := [(0, 1)]) (r := true) hb1 (by omega) hM1 (by decide +kernel) (by decide +kernel) (by decide +kernel) (by decide +kernel) (show 1 = gm_na 331 by decide +kernel) (show 2 ≤ gm_ml 331 by decide +kernel) (Nat.le_of_ble_eq_true rfl) am_market_s am_market_c am_market_v (bc_in1 ⟨bz_0, bz_1⟩ bc_in0) (List.forall_mem_cons.mpr ⟨⟨Int.le_trans (by decide) bz_0, Int.lt_of_le_of_lt bz_1 (by decide)⟩, (fun _ h => nomatch h)⟩) (by omega) (by omega) ?_
  intro u2 la2 K2 R2 M2 hu2 hb2 hM2
  obtain ⟨y2, rfl⟩ : ∃ y, u2 = some (gm_vi y) := hu2
  show gm_Wp X LX 280 _ _ 370 1093 L [gm_vi y2] (245 + 4 * g) K2 R2 M2 Q
  refine gm_sz (gm_p_pop (pc := 1093) (by decide +kernel) (by simp [gm_sort])) ?_
  refine gm_sz (gm_p_goto (pc := 1094) (off := 899) (by decide +kernel) (by decide)) ?_
  exact gm_Wp_wk (Nat.le_refl _) (by omega) (by omega) (rest g _ _ _ _ L hb2 (by omega) ⟨_, _, _, _, _, _, _, hM2⟩ hL)
theorem mc_23 (hb : bg g la K R M) (hg : g < 9990) (hM : RELW la K M) (hL : mn_L i L) (hi : 0 ≤ i ∧ i + 6 ≤ (LX : Int)) (hLX : LX ≤ 3072) (hX : ∀ j, gm_ir (X j)) (hbc : 12 ≤ bc) (hbs : 1200 ≤ bs) (rest : mn_R X LX bc bs i g Q) : gm_Wp X LX 280 bc bs 370 1097 L [] (245 + 4 * g) K R M Q := by
  obtain ⟨N, lw, A, im, t, w, f, hM⟩ := hM
  refine gm_sz (gm_p_load (pc := 1097) (i := .aload_n 1) (sr := 2) (j := 1) (by decide +kernel) rfl hL.2.2.1 rfl) ?_
  refine mn_arg (pc := 1098) (j := 1) (by decide +kernel) (by decide +kernel) (by decide +kernel) (by decide +kernel) (by decide +kernel) hL hi (by decide) hLX ?_
  refine gm_sz (gm_p_load (pc := 1104) (i := .aload_n 3) (sr := 2) (j := 3) (by decide +kernel) rfl hL.2.2.2.2.1 rfl) ?_
  refine rq_x (pc := 1105) (ix := 226) (mj := 178) (xs := [X (i + 1)]) (st := []) (ds := [(-2147483648, 2147483647)]) (r := true) hb (by omega) hM (by decide +kernel) (by decide +kernel) (by decide +kernel) (by decide +kernel) (show 3 = gm_na 178 by decide +kernel) (show 3 ≤ gm_ml 178 by decide +kernel) (Nat.le_of_ble_eq_true rfl) ax_passes_s al_passes_s ax_passes_c al_passes_c ax_passes_v al_passes_v (bc_in1 (mn_w (hX _)) bc_in0) (List.forall_mem_cons.mpr ⟨hX _, (fun _ h => nomatch h)⟩) (by omega) (by omega) ?_
  intro u1 la1 K1 R1 M1 hu1 hb1 hM1
  obtain ⟨y1, rfl⟩ : ∃ y, u1 = some (gm_vi y) := hu1
  show gm_Wp X LX 280 _ _ 370 1108 L [gm_vi y1] (245 + 4 * g) K1 R1 M1 Q
  refine gm_sz (gm_p_stor (pc := 1108) (i := .istore 5) (sr := 0) (j := 5) (by decide +kernel) rfl (by show 5 + 0 < L.length; have := hL.1; omega) rfl) ?_
  have hL5 := mn_L_s (y := y1) hL (j := 5) (Or.inl rfl)
  have l55 := mn_l5 (y := y1) hL
  generalize gm_lst L 5 (gm_vi y1) = L5 at hL5 l55 ⊢
  refine gm_sz (gm_p_load (pc := 1110) (i := .aload_n 2) (sr := 2) (j := 2) (by decide +kernel) rfl hL5.2.2.2.1 rfl) ?_
  refine mn_arg (pc := 1111) (j := 1) (by decide +kernel) (by decide +kernel) (by decide +kernel) (by decide +kernel) (by decide +kernel) hL5 hi (by decide) hLX ?_
  refine rq_m (pc := 1117) (ix := 228) (mj := 334) (xs := [X (i + 1)]) (st := []) (ds := [(-2147483648, 2147483647)]) (r := true) hb1 (by omega) hM1 (by decide +kernel) (by decide +kernel) (by decide +kernel) (by decide +kernel) (show 1 = gm_na 334 by decide +kernel) (show 2 ≤ gm_ml 334 by decide +kernel) (Nat.le_of_ble_eq_true rfl) am_passes_s am_passes_c am_passes_v (bc_in1 (mn_w (hX _)) bc_in0) (List.forall_mem_cons.mpr ⟨hX _, (fun _ h => nomatch h)⟩) (by omega) (by omega) ?_
  intro u2 la2 K2 R2 M2 hu2 hb2 hM2
  obtain ⟨y2, rfl⟩ : ∃ y, u2 = some (gm_vi y) := hu2
  show gm_Wp X LX 280 _ _ 370 1120 L5 [gm_vi y2] (245 + 4 * g) K2 R2 M2 Q
  refine gm_sz (gm_p_stor (pc := 1120) (i := .istore 6) (sr := 0) (j := 6) (by decide +kernel) rfl (by show 6 + 0 < L5.length; have := hL5.1; omega) rfl) ?_
  have hL6 := mn_L_s (y := y2) hL5 (j := 6) (Or.inr rfl)
  have l66 := mn_l6 (y := y2) hL5
  have l65 := mn_l65 (y := y2) l55
  generalize gm_lst L5 6 (gm_vi y2) = L6 at hL6 l66 l65 ⊢
  refine gm_sz (gm_p_goto (pc := 1122) (off := 871) (by decide +kernel) (by decide)) ?_
  exact gm_Wp_wk (Nat.le_refl _) (by omega) (by omega) (rest g _ _ _ _ L6 hb2 (by omega) ⟨_, _, _, _, _, _, _, hM2⟩ hL6)
theorem mc_24 (hb : bg g la K R M) (hg : g < 9990) (hM : RELW la K M) (hL : mn_L i L) (hi : 0 ≤ i ∧ i + 6 ≤ (LX : Int)) (hLX : LX ≤ 3072) (hX : ∀ j, gm_ir (X j)) (hbc : 12 ≤ bc) (hbs : 1200 ≤ bs) (rest : mn_R X LX bc bs i g Q) : gm_Wp X LX 280 bc bs 370 1125 L [] (245 + 4 * g) K R M Q := by
  obtain ⟨N, lw, A, im, t, w, f, hM⟩ := hM
  refine gm_sz (gm_p_load (pc := 1125) (i := .aload_n 1) (sr := 2) (j := 1) (by decide +kernel) rfl hL.2.2.1 rfl) ?_
  refine mn_arg (pc := 1126) (j := 1) (by decide +kernel) (by decide +kernel) (by decide +kernel) (by decide +kernel) (by decide +kernel) hL hi (by decide) hLX ?_
  refine mn_arg (pc := 1132) (j := 2) (by decide +kernel) (by decide +kernel) (by decide +kernel) (by decide +kernel) (by decide +kernel) hL hi (by decide) hLX ?_
  refine mn_arg (pc := 1138) (j := 3) (by decide +kernel) (by decide +kernel) (by decide +kernel) (by decide +kernel) (by decide +kernel) hL hi (by decide) hLX ?_
  refine gm_sz (gm_p_load (pc := 1144) (i := .aload_n 3) (sr := 2) (j := 3) (by decide +kernel) rfl hL.2.2.2.2.1 rfl) ?_
  refine rq_x (pc := 1145) (ix := 229) (mj := 185) (xs := [X (i + 1), X (i + 2), X (i + 3)]) (st := []) (ds := [(-2147483648, 2147483647), (-2147483648, 2147483647), (-2147483648, 2147483647)]) (r := true) hb (by omega) hM (by decide +kernel) (by decide +kernel) (by decide +kernel) (by decide +kernel) (show 5 = gm_na 185 by decide +kernel) (show 5 ≤ gm_ml 185 by decide +kernel) (Nat.le_of_ble_eq_true rfl) ax_writers_s al_writers_s ax_writers_c al_writers_c ax_writers_v al_writers_v (bc_in1 (mn_w (hX _)) (bc_in1 (mn_w (hX _)) (bc_in1 (mn_w (hX _)) bc_in0))) (List.forall_mem_cons.mpr ⟨hX _, (List.forall_mem_cons.mpr ⟨hX _, (List.forall_mem_cons.mpr ⟨hX _, (fun _ h => nomatch h)⟩)⟩)⟩) (by omega) (by omega) ?_
  intro u1 la1 K1 R1 M1 hu1 hb1 hM1
  obtain ⟨y1, rfl⟩ : ∃ y, u1 = some (gm_vi y) := hu1
  show gm_Wp X LX 280 _ _ 370 1148 L [gm_vi y1] (245 + 4 * g) K1 R1 M1 Q
  refine gm_sz (gm_p_stor (pc := 1148) (i := .istore 5) (sr := 0) (j := 5) (by decide +kernel) rfl (by show 5 + 0 < L.length; have := hL.1; omega) rfl) ?_
  have hL5 := mn_L_s (y := y1) hL (j := 5) (Or.inl rfl)
  have l55 := mn_l5 (y := y1) hL
  generalize gm_lst L 5 (gm_vi y1) = L5 at hL5 l55 ⊢
  refine gm_sz (gm_p_load (pc := 1150) (i := .aload_n 2) (sr := 2) (j := 2) (by decide +kernel) rfl hL5.2.2.2.1 rfl) ?_
  refine mn_arg (pc := 1151) (j := 1) (by decide +kernel) (by decide +kernel) (by decide +kernel) (by decide +kernel) (by decide +kernel) hL5 hi (by decide) hLX ?_
  refine mn_arg (pc := 1157) (j := 2) (by decide +kernel) (by decide +kernel) (by decide +kernel) (by decide +kernel) (by decide +kernel) hL5 hi (by decide) hLX ?_
  refine mn_arg (pc := 1163) (j := 3) (by decide +kernel) (by decide +kernel) (by decide +kernel) (by decide +kernel) (by decide +kernel) hL5 hi (by decide) hLX ?_
  refine rq_m (pc := 1169) (ix := 231) (mj := 338) (xs := [X (i + 1), X (i + 2), X (i + 3)]) (st := []) (ds := [(-2147483648, 2147483647), (-2147483648, 2147483647), (-2147483648, 2147483647)]) (r := true) hb1 (by omega) hM1 (by decide +kernel) (by decide +kernel) (by decide +kernel) (by decide +kernel) (show 3 = gm_na 338 by decide +kernel) (show 4 ≤ gm_ml 338 by decide +kernel) (Nat.le_of_ble_eq_true rfl) am_writers_s am_writers_c am_writers_v (bc_in1 (mn_w (hX _)) (bc_in1 (mn_w (hX _)) (bc_in1 (mn_w (hX _)) bc_in0))) (List.forall_mem_cons.mpr ⟨hX _, (List.forall_mem_cons.mpr ⟨hX _, (List.forall_mem_cons.mpr ⟨hX _, (fun _ h => nomatch h)⟩)⟩)⟩) (by omega) (by omega) ?_
  intro u2 la2 K2 R2 M2 hu2 hb2 hM2
  obtain ⟨y2, rfl⟩ : ∃ y, u2 = some (gm_vi y) := hu2
  show gm_Wp X LX 280 _ _ 370 1172 L5 [gm_vi y2] (245 + 4 * g) K2 R2 M2 Q
  refine gm_sz (gm_p_stor (pc := 1172) (i := .istore 6) (sr := 0) (j := 6) (by decide +kernel) rfl (by show 6 + 0 < L5.length; have := hL5.1; omega) rfl) ?_
  have hL6 := mn_L_s (y := y2) hL5 (j := 6) (Or.inr rfl)
  have l66 := mn_l6 (y := y2) hL5
  have l65 := mn_l65 (y := y2) l55
  generalize gm_lst L5 6 (gm_vi y2) = L6 at hL6 l66 l65 ⊢
  refine gm_sz (gm_p_goto (pc := 1174) (off := 819) (by decide +kernel) (by decide)) ?_
  exact gm_Wp_wk (Nat.le_refl _) (by omega) (by omega) (rest g _ _ _ _ L6 hb2 (by omega) ⟨_, _, _, _, _, _, _, hM2⟩ hL6)
theorem mc_25 (hb : bg g la K R M) (hg : g < 9990) (hM : RELW la K M) (hL : mn_L i L) (hi : 0 ≤ i ∧ i + 6 ≤ (LX : Int)) (hLX : LX ≤ 3072) (hX : ∀ j, gm_ir (X j)) (hbc : 12 ≤ bc) (hbs : 1200 ≤ bs) (rest : mn_R X LX bc bs i g Q) : gm_Wp X LX 280 bc bs 370 1177 L [] (245 + 4 * g) K R M Q := by
  obtain ⟨N, lw, A, im, t, w, f, hM⟩ := hM
  refine gm_sz (gm_p_load (pc := 1177) (i := .aload_n 1) (sr := 2) (j := 1) (by decide +kernel) rfl hL.2.2.1 rfl) ?_
  refine mn_arg (pc := 1178) (j := 1) (by decide +kernel) (by decide +kernel) (by decide +kernel) (by decide +kernel) (by decide +kernel) hL hi (by decide) hLX ?_
  refine mn_arg (pc := 1184) (j := 2) (by decide +kernel) (by decide +kernel) (by decide +kernel) (by decide +kernel) (by decide +kernel) hL hi (by decide) hLX ?_
  refine mn_arg (pc := 1190) (j := 3) (by decide +kernel) (by decide +kernel) (by decide +kernel) (by decide +kernel) (by decide +kernel) hL hi (by decide) hLX ?_
  refine mn_arg (pc := 1196) (j := 4) (by decide +kernel) (by decide +kernel) (by decide +kernel) (by decide +kernel) (by decide +kernel) hL hi (by decide) hLX ?_
  refine gm_sz (gm_p_load (pc := 1202) (i := .aload_n 3) (sr := 2) (j := 3) (by decide +kernel) rfl hL.2.2.2.2.1 rfl) ?_
  refine rq_x (pc := 1203) (ix := 232) (mj := 189) (xs := [X (i + 1), X (i + 2), X (i + 3), X (i + 4)]) (st := []) (ds := [(-2147483648, 2147483647), (-2147483648, 2147483647), (-2147483648, 2147483647), (-2147483648, 2147483647)]) (r := true) hb (by omega) hM (by decide +kernel) (by decide +kernel) (by decide +kernel) (by decide +kernel) (show 6 = gm_na 189 by decide +kernel) (show 6 ≤ gm_ml 189 by decide +kernel) (Nat.le_of_ble_eq_true rfl) ax_wrote_s al_wrote_s ax_wrote_c al_wrote_c ax_wrote_v al_wrote_v (bc_in1 (mn_w (hX _)) (bc_in1 (mn_w (hX _)) (bc_in1 (mn_w (hX _)) (bc_in1 (mn_w (hX _)) bc_in0)))) (List.forall_mem_cons.mpr ⟨hX _, (List.forall_mem_cons.mpr ⟨hX _, (List.forall_mem_cons.mpr ⟨hX _, (List.forall_mem_cons.mpr ⟨hX _, (fun _ h => nomatch h)⟩)⟩)⟩)⟩) (by omega) (by omega) ?_
  intro u1 la1 K1 R1 M1 hu1 hb1 hM1
  obtain ⟨y1, rfl⟩ : ∃ y, u1 = some (gm_vi y) := hu1
  show gm_Wp X LX 280 _ _ 370 1206 L [gm_vi y1] (245 + 4 * g) K1 R1 M1 Q
  refine gm_sz (gm_p_stor (pc := 1206) (i := .istore 5) (sr := 0) (j := 5) (by decide +kernel) rfl (by show 5 + 0 < L.length; have := hL.1; omega) rfl) ?_
  have hL5 := mn_L_s (y := y1) hL (j := 5) (Or.inl rfl)
  have l55 := mn_l5 (y := y1) hL
  generalize gm_lst L 5 (gm_vi y1) = L5 at hL5 l55 ⊢
  refine gm_sz (gm_p_load (pc := 1208) (i := .aload_n 2) (sr := 2) (j := 2) (by decide +kernel) rfl hL5.2.2.2.1 rfl) ?_
  refine mn_arg (pc := 1209) (j := 1) (by decide +kernel) (by decide +kernel) (by decide +kernel) (by decide +kernel) (by decide +kernel) hL5 hi (by decide) hLX ?_
  refine mn_arg (pc := 1215) (j := 2) (by decide +kernel) (by decide +kernel) (by decide +kernel) (by decide +kernel) (by decide +kernel) hL5 hi (by decide) hLX ?_
  refine mn_arg (pc := 1221) (j := 3) (by decide +kernel) (by decide +kernel) (by decide +kernel) (by decide +kernel) (by decide +kernel) hL5 hi (by decide) hLX ?_
  refine mn_arg (pc := 1227) (j := 4) (by decide +kernel) (by decide +kernel) (by decide +kernel) (by decide +kernel) (by decide +kernel) hL5 hi (by decide) hLX ?_
  refine rq_m (pc := 1233) (ix := 234) (mj := 340) (xs := [X (i + 1), X (i + 2), X (i + 3), X (i + 4)]) (st := []) (ds := [(-2147483648, 2147483647), (-2147483648, 2147483647), (-2147483648, 2147483647), (-2147483648, 2147483647)]) (r := true) hb1 (by omega) hM1 (by decide +kernel) (by decide +kernel) (by decide +kernel) (by decide +kernel) (show 4 = gm_na 340 by decide +kernel) (show 5 ≤ gm_ml 340 by decide +kernel) (Nat.le_of_ble_eq_true rfl) am_wrote_s am_wrote_c am_wrote_v (bc_in1 (mn_w (hX _)) (bc_in1 (mn_w (hX _)) (bc_in1 (mn_w (hX _)) (bc_in1 (mn_w (hX _)) bc_in0)))) (List.forall_mem_cons.mpr ⟨hX _, (List.forall_mem_cons.mpr ⟨hX _, (List.forall_mem_cons.mpr ⟨hX _, (List.forall_mem_cons.mpr ⟨hX _, (fun _ h => nomatch h)⟩)⟩)⟩)⟩) (by omega) (by omega) ?_
  intro u2 la2 K2 R2 M2 hu2 hb2 hM2
  obtain ⟨y2, rfl⟩ : ∃ y, u2 = some (gm_vi y) := hu2
  show gm_Wp X LX 280 _ _ 370 1236 L5 [gm_vi y2] (245 + 4 * g) K2 R2 M2 Q
  refine gm_sz (gm_p_stor (pc := 1236) (i := .istore 6) (sr := 0) (j := 6) (by decide +kernel) rfl (by show 6 + 0 < L5.length; have := hL5.1; omega) rfl) ?_
  have hL6 := mn_L_s (y := y2) hL5 (j := 6) (Or.inr rfl)
  have l66 := mn_l6 (y := y2) hL5
  have l65 := mn_l65 (y := y2) l55
  generalize gm_lst L5 6 (gm_vi y2) = L6 at hL6 l66 l65 ⊢
  refine gm_sz (gm_p_goto (pc := 1238) (off := 755) (by decide +kernel) (by decide)) ?_
  exact gm_Wp_wk (Nat.le_refl _) (by omega) (by omega) (rest g _ _ _ _ L6 hb2 (by omega) ⟨_, _, _, _, _, _, _, hM2⟩ hL6)
theorem mc_26 (hb : bg g la K R M) (hg : g < 9990) (hM : RELW la K M) (hL : mn_L i L) (hi : 0 ≤ i ∧ i + 6 ≤ (LX : Int)) (hLX : LX ≤ 3072) (hX : ∀ j, gm_ir (X j)) (hbc : 12 ≤ bc) (hbs : 1200 ≤ bs) (rest : mn_R X LX bc bs i g Q) : gm_Wp X LX 280 bc bs 370 1241 L [] (245 + 4 * g) K R M Q := by
  obtain ⟨N, lw, A, im, t, w, f, hM⟩ := hM
  refine gm_sz (gm_p_load (pc := 1241) (i := .aload_n 1) (sr := 2) (j := 1) (by decide +kernel) rfl hL.2.2.1 rfl) ?_
  refine mn_arg (pc := 1242) (j := 1) (by decide +kernel) (by decide +kernel) (by decide +kernel) (by decide +kernel) (by decide +kernel) hL hi (by decide) hLX ?_
  refine mn_arg (pc := 1248) (j := 2) (by decide +kernel) (by decide +kernel) (by decide +kernel) (by decide +kernel) (by decide +kernel) hL hi (by decide) hLX ?_
  refine gm_sz (gm_p_load (pc := 1254) (i := .aload_n 3) (sr := 2) (j := 3) (by decide +kernel) rfl hL.2.2.2.2.1 rfl) ?_
  refine rq_x (pc := 1255) (ix := 235) (mj := 191) (xs := [X (i + 1), X (i + 2)]) (st := []) (ds := [(-2147483648, 2147483647), (-2147483648, 2147483647)]) (r := true) hb (by omega) hM (by decide +kernel) (by decide +kernel) (by decide +kernel) (by decide +kernel) (show 4 = gm_na 191 by decide +kernel) (show 4 ≤ gm_ml 191 by decide +kernel) (Nat.le_of_ble_eq_true rfl) ax_table_s al_table_s ax_table_c al_table_c ax_table_v al_table_v (bc_in1 (mn_w (hX _)) (bc_in1 (mn_w (hX _)) bc_in0)) (List.forall_mem_cons.mpr ⟨hX _, (List.forall_mem_cons.mpr ⟨hX _, (fun _ h => nomatch h)⟩)⟩) (by omega) (by omega) ?_
  intro u1 la1 K1 R1 M1 hu1 hb1 hM1
  obtain ⟨y1, rfl⟩ : ∃ y, u1 = some (gm_vi y) := hu1
  show gm_Wp X LX 280 _ _ 370 1258 L [gm_vi y1] (245 + 4 * g) K1 R1 M1 Q
  refine gm_sz (gm_p_stor (pc := 1258) (i := .istore 5) (sr := 0) (j := 5) (by decide +kernel) rfl (by show 5 + 0 < L.length; have := hL.1; omega) rfl) ?_
  have hL5 := mn_L_s (y := y1) hL (j := 5) (Or.inl rfl)
  have l55 := mn_l5 (y := y1) hL
  generalize gm_lst L 5 (gm_vi y1) = L5 at hL5 l55 ⊢
  refine gm_sz (gm_p_load (pc := 1260) (i := .aload_n 2) (sr := 2) (j := 2) (by decide +kernel) rfl hL5.2.2.2.1 rfl) ?_
  refine mn_arg (pc := 1261) (j := 1) (by decide +kernel) (by decide +kernel) (by decide +kernel) (by decide +kernel) (by decide +kernel) hL5 hi (by decide) hLX ?_
  refine mn_arg (pc := 1267) (j := 2) (by decide +kernel) (by decide +kernel) (by decide +kernel) (by decide +kernel) (by decide +kernel) hL5 hi (by decide) hLX ?_
  refine rq_m (pc := 1273) (ix := 237) (mj := 341) (xs := [X (i + 1), X (i + 2)]) (st := []) (ds := [(-2147483648, 2147483647), (-2147483648, 2147483647)]) (r := true) hb1 (by omega) hM1 (by decide +kernel) (by decide +kernel) (by decide +kernel) (by decide +kernel) (show 2 = gm_na 341 by decide +kernel) (show 3 ≤ gm_ml 341 by decide +kernel) (Nat.le_of_ble_eq_true rfl) am_table_s am_table_c am_table_v (bc_in1 (mn_w (hX _)) (bc_in1 (mn_w (hX _)) bc_in0)) (List.forall_mem_cons.mpr ⟨hX _, (List.forall_mem_cons.mpr ⟨hX _, (fun _ h => nomatch h)⟩)⟩) (by omega) (by omega) ?_
  intro u2 la2 K2 R2 M2 hu2 hb2 hM2
  obtain ⟨y2, rfl⟩ : ∃ y, u2 = some (gm_vi y) := hu2
  show gm_Wp X LX 280 _ _ 370 1276 L5 [gm_vi y2] (245 + 4 * g) K2 R2 M2 Q
  refine gm_sz (gm_p_stor (pc := 1276) (i := .istore 6) (sr := 0) (j := 6) (by decide +kernel) rfl (by show 6 + 0 < L5.length; have := hL5.1; omega) rfl) ?_
  have hL6 := mn_L_s (y := y2) hL5 (j := 6) (Or.inr rfl)
  have l66 := mn_l6 (y := y2) hL5
  have l65 := mn_l65 (y := y2) l55
  generalize gm_lst L5 6 (gm_vi y2) = L6 at hL6 l66 l65 ⊢
  refine gm_sz (gm_p_goto (pc := 1278) (off := 715) (by decide +kernel) (by decide)) ?_
  exact gm_Wp_wk (Nat.le_refl _) (by omega) (by omega) (rest g _ _ _ _ L6 hb2 (by omega) ⟨_, _, _, _, _, _, _, hM2⟩ hL6)
theorem mc_27 (hb : bg g la K R M) (hg : g < 9990) (hM : RELW la K M) (hL : mn_L i L) (hi : 0 ≤ i ∧ i + 6 ≤ (LX : Int)) (hLX : LX ≤ 3072) (hX : ∀ j, gm_ir (X j)) (hbc : 12 ≤ bc) (hbs : 1200 ≤ bs) (rest : mn_R X LX bc bs i g Q) : gm_Wp X LX 280 bc bs 370 1281 L [] (245 + 4 * g) K R M Q := by
  obtain ⟨N, lw, A, im, t, w, f, hM⟩ := hM
  refine gm_sz (gm_p_load (pc := 1281) (i := .aload_n 1) (sr := 2) (j := 1) (by decide +kernel) rfl hL.2.2.1 rfl) ?_
  refine mn_arg (pc := 1282) (j := 1) (by decide +kernel) (by decide +kernel) (by decide +kernel) (by decide +kernel) (by decide +kernel) hL hi (by decide) hLX ?_
  refine mn_arg (pc := 1288) (j := 2) (by decide +kernel) (by decide +kernel) (by decide +kernel) (by decide +kernel) (by decide +kernel) hL hi (by decide) hLX ?_
  refine mn_arg (pc := 1294) (j := 3) (by decide +kernel) (by decide +kernel) (by decide +kernel) (by decide +kernel) (by decide +kernel) hL hi (by decide) hLX ?_
  refine gm_sz (gm_p_load (pc := 1300) (i := .aload_n 3) (sr := 2) (j := 3) (by decide +kernel) rfl hL.2.2.2.2.1 rfl) ?_
  refine rq_x (pc := 1301) (ix := 238) (mj := 194) (xs := [X (i + 1), X (i + 2), X (i + 3)]) (st := []) (ds := [(-2147483648, 2147483647), (-2147483648, 2147483647), (-2147483648, 2147483647)]) (r := true) hb (by omega) hM (by decide +kernel) (by decide +kernel) (by decide +kernel) (by decide +kernel) (show 5 = gm_na 194 by decide +kernel) (show 5 ≤ gm_ml 194 by decide +kernel) (Nat.le_of_ble_eq_true rfl) ax_apart_s al_apart_s ax_apart_c al_apart_c ax_apart_v al_apart_v (bc_in1 (mn_w (hX _)) (bc_in1 (mn_w (hX _)) (bc_in1 (mn_w (hX _)) bc_in0))) (List.forall_mem_cons.mpr ⟨hX _, (List.forall_mem_cons.mpr ⟨hX _, (List.forall_mem_cons.mpr ⟨hX _, (fun _ h => nomatch h)⟩)⟩)⟩) (by omega) (by omega) ?_
  intro u1 la1 K1 R1 M1 hu1 hb1 hM1
  obtain ⟨y1, rfl⟩ : ∃ y, u1 = some (gm_vi y) := hu1
  show gm_Wp X LX 280 _ _ 370 1304 L [gm_vi y1] (245 + 4 * g) K1 R1 M1 Q
  refine gm_sz (gm_p_stor (pc := 1304) (i := .istore 5) (sr := 0) (j := 5) (by decide +kernel) rfl (by show 5 + 0 < L.length; have := hL.1; omega) rfl) ?_
  have hL5 := mn_L_s (y := y1) hL (j := 5) (Or.inl rfl)
  have l55 := mn_l5 (y := y1) hL
  generalize gm_lst L 5 (gm_vi y1) = L5 at hL5 l55 ⊢
  refine gm_sz (gm_p_load (pc := 1306) (i := .aload_n 2) (sr := 2) (j := 2) (by decide +kernel) rfl hL5.2.2.2.1 rfl) ?_
  refine mn_arg (pc := 1307) (j := 1) (by decide +kernel) (by decide +kernel) (by decide +kernel) (by decide +kernel) (by decide +kernel) hL5 hi (by decide) hLX ?_
  refine mn_arg (pc := 1313) (j := 2) (by decide +kernel) (by decide +kernel) (by decide +kernel) (by decide +kernel) (by decide +kernel) hL5 hi (by decide) hLX ?_
  refine mn_arg (pc := 1319) (j := 3) (by decide +kernel) (by decide +kernel) (by decide +kernel) (by decide +kernel) (by decide +kernel) hL5 hi (by decide) hLX ?_
  refine rq_m (pc := 1325) (ix := 240) (mj := 344) (xs := [X (i + 1), X (i + 2), X (i + 3)]) (st := []) (ds := [(-2147483648, 2147483647), (-2147483648, 2147483647), (-2147483648, 2147483647)]) (r := true) hb1 (by omega) hM1 (by decide +kernel) (by decide +kernel) (by decide +kernel) (by decide +kernel) (show 3 = gm_na 344 by decide +kernel) (show 4 ≤ gm_ml 344 by decide +kernel) (Nat.le_of_ble_eq_true rfl) am_apart_s am_apart_c am_apart_v (bc_in1 (mn_w (hX _)) (bc_in1 (mn_w (hX _)) (bc_in1 (mn_w (hX _)) bc_in0))) (List.forall_mem_cons.mpr ⟨hX _, (List.forall_mem_cons.mpr ⟨hX _, (List.forall_mem_cons.mpr ⟨hX _, (fun _ h => nomatch h)⟩)⟩)⟩) (by omega) (by omega) ?_
  intro u2 la2 K2 R2 M2 hu2 hb2 hM2
  obtain ⟨y2, rfl⟩ : ∃ y, u2 = some (gm_vi y) := hu2
  show gm_Wp X LX 280 _ _ 370 1328 L5 [gm_vi y2] (245 + 4 * g) K2 R2 M2 Q
  refine gm_sz (gm_p_stor (pc := 1328) (i := .istore 6) (sr := 0) (j := 6) (by decide +kernel) rfl (by show 6 + 0 < L5.length; have := hL5.1; omega) rfl) ?_
  have hL6 := mn_L_s (y := y2) hL5 (j := 6) (Or.inr rfl)
  have l66 := mn_l6 (y := y2) hL5
  have l65 := mn_l65 (y := y2) l55
  generalize gm_lst L5 6 (gm_vi y2) = L6 at hL6 l66 l65 ⊢
  refine gm_sz (gm_p_goto (pc := 1330) (off := 663) (by decide +kernel) (by decide)) ?_
  exact gm_Wp_wk (Nat.le_refl _) (by omega) (by omega) (rest g _ _ _ _ L6 hb2 (by omega) ⟨_, _, _, _, _, _, _, hM2⟩ hL6)
theorem mc_28 (hb : bg g la K R M) (hg : g < 9990) (hM : RELW la K M) (hL : mn_L i L) (hi : 0 ≤ i ∧ i + 6 ≤ (LX : Int)) (hLX : LX ≤ 3072) (hX : ∀ j, gm_ir (X j)) (hbc : 12 ≤ bc) (hbs : 1200 ≤ bs) (rest : mn_R X LX bc bs i g Q) : gm_Wp X LX 280 bc bs 370 1333 L [] (245 + 4 * g) K R M Q := by
  obtain ⟨N, lw, A, im, t, w, f, hM⟩ := hM
  refine gm_sz (gm_p_load (pc := 1333) (i := .aload_n 1) (sr := 2) (j := 1) (by decide +kernel) rfl hL.2.2.1 rfl) ?_
  refine rq_d (pc := 1334) (ix := 241) (mj := 48) (xs := []) (st := []) (ds := []) (r := true) hb (by omega) hM (by decide +kernel) (by decide +kernel) (by decide +kernel) (by decide +kernel) (show 0 = gm_na 48 by decide +kernel) (show 1 ≤ gm_ml 48 by decide +kernel) (Nat.le_of_ble_eq_true rfl) ax_poles_s al_poles_s ax_poles_c al_poles_c ax_poles_v al_poles_v bc_in0 (fun _ h => nomatch h) (by omega) (by omega) ?_
  intro u1 la1 K1 R1 M1 hu1 hb1 hM1
  obtain ⟨y1, rfl⟩ : ∃ y, u1 = some (gm_vi y) := hu1
  show gm_Wp X LX 280 _ _ 370 1337 L [gm_vi y1] (245 + 4 * g) K1 R1 M1 Q
  refine gm_sz (gm_p_pop (pc := 1337) (by decide +kernel) (by simp [gm_sort])) ?_
  refine gm_sz (gm_p_load (pc := 1338) (i := .aload_n 2) (sr := 2) (j := 2) (by decide +kernel) rfl hL.2.2.2.1 rfl) ?_
  refine rq_m (pc := 1339) (ix := 244) (mj := 347) (xs := []) (st := []) (ds := []) (r := true) hb1 (by omega) hM1 (by decide +kernel) (by decide +kernel) (by decide +kernel) (by decide +kernel) (show 0 = gm_na 347 by decide +kernel) (show 1 ≤ gm_ml 347 by decide +kernel) (Nat.le_of_ble_eq_true rfl) am_poles_s am_poles_c am_poles_v bc_in0 (fun _ h => nomatch h) (by omega) (by omega) ?_
  intro u2 la2 K2 R2 M2 hu2 hb2 hM2
  obtain ⟨y2, rfl⟩ : ∃ y, u2 = some (gm_vi y) := hu2
  show gm_Wp X LX 280 _ _ 370 1342 L [gm_vi y2] (245 + 4 * g) K2 R2 M2 Q
  refine gm_sz (gm_p_pop (pc := 1342) (by decide +kernel) (by simp [gm_sort])) ?_
  refine gm_sz (gm_p_goto (pc := 1343) (off := 650) (by decide +kernel) (by decide)) ?_
  exact gm_Wp_wk (Nat.le_refl _) (by omega) (by omega) (rest g _ _ _ _ L hb2 (by omega) ⟨_, _, _, _, _, _, _, hM2⟩ hL)
theorem mc_29 (hb : bg g la K R M) (hg : g < 9990) (hM : RELW la K M) (hL : mn_L i L) (hi : 0 ≤ i ∧ i + 6 ≤ (LX : Int)) (hLX : LX ≤ 3072) (hX : ∀ j, gm_ir (X j)) (hbc : 12 ≤ bc) (hbs : 1200 ≤ bs) (rest : mn_R X LX bc bs i g Q) : gm_Wp X LX 280 bc bs 370 1346 L [] (245 + 4 * g) K R M Q := by
  obtain ⟨N, lw, A, im, t, w, f, hM⟩ := hM
  refine gm_sz (gm_p_load (pc := 1346) (i := .aload_n 1) (sr := 2) (j := 1) (by decide +kernel) rfl hL.2.2.1 rfl) ?_
  refine gm_sz (gm_p_load (pc := 1347) (i := .aload_n 3) (sr := 2) (j := 3) (by decide +kernel) rfl hL.2.2.2.2.1 rfl) ?_
  refine ft_x (pc := 1348) (ix := 245) (mj := 196) (xs := []) (st := []) (ds := []) (r := true) hb (by omega) hM (by decide +kernel) (by decide +kernel) (by decide +kernel) (by decide +kernel) (show 2 = gm_na 196 by decide +kernel) (show 2 ≤ gm_ml 196 by decide +kernel) (Nat.le_of_ble_eq_true rfl) ax_fit_s al_fit_s ax_fit_c al_fit_c ax_fit_v al_fit_v bc_in0 (fun _ h => nomatch h) (by omega) (by omega) ?_
  intro u1 la1 K1 R1 M1 hu1 hb1 hM1
  obtain ⟨y1, rfl⟩ : ∃ y, u1 = some (gm_vi y) := hu1
  show gm_Wp X LX 280 _ _ 370 1351 L [gm_vi y1] (245 + 4 * g) K1 R1 M1 Q
  refine gm_sz (gm_p_stor (pc := 1351) (i := .istore 5) (sr := 0) (j := 5) (by decide +kernel) rfl (by show 5 + 0 < L.length; have := hL.1; omega) rfl) ?_
  have hL5 := mn_L_s (y := y1) hL (j := 5) (Or.inl rfl)
  have l55 := mn_l5 (y := y1) hL
  generalize gm_lst L 5 (gm_vi y1) = L5 at hL5 l55 ⊢
  refine gm_sz (gm_p_load (pc := 1353) (i := .aload_n 2) (sr := 2) (j := 2) (by decide +kernel) rfl hL5.2.2.2.1 rfl) ?_
  refine ft_m (pc := 1354) (ix := 247) (mj := 348) (xs := []) (st := []) (ds := []) (r := true) hb1 (by omega) hM1 (by decide +kernel) (by decide +kernel) (by decide +kernel) (by decide +kernel) (show 0 = gm_na 348 by decide +kernel) (show 1 ≤ gm_ml 348 by decide +kernel) (Nat.le_of_ble_eq_true rfl) am_fit_s am_fit_c am_fit_v bc_in0 (fun _ h => nomatch h) (by omega) (by omega) ?_
  intro u2 la2 K2 R2 M2 hu2 hb2 hM2
  obtain ⟨y2, rfl⟩ : ∃ y, u2 = some (gm_vi y) := hu2
  show gm_Wp X LX 280 _ _ 370 1357 L5 [gm_vi y2] (245 + 4 * g) K2 R2 M2 Q
  refine gm_sz (gm_p_stor (pc := 1357) (i := .istore 6) (sr := 0) (j := 6) (by decide +kernel) rfl (by show 6 + 0 < L5.length; have := hL5.1; omega) rfl) ?_
  have hL6 := mn_L_s (y := y2) hL5 (j := 6) (Or.inr rfl)
  have l66 := mn_l6 (y := y2) hL5
  have l65 := mn_l65 (y := y2) l55
  generalize gm_lst L5 6 (gm_vi y2) = L6 at hL6 l66 l65 ⊢
  refine gm_sz (gm_p_goto (pc := 1359) (off := 634) (by decide +kernel) (by decide)) ?_
  exact gm_Wp_wk (Nat.le_refl _) (by omega) (by omega) (rest g _ _ _ _ L6 hb2 (by omega) ⟨_, _, _, _, _, _, _, hM2⟩ hL6)
theorem mc_30 (hb : bg g la K R M) (hg : g < 9990) (hM : RELW la K M) (hL : mn_L i L) (hi : 0 ≤ i ∧ i + 6 ≤ (LX : Int)) (hLX : LX ≤ 3072) (hX : ∀ j, gm_ir (X j)) (hbc : 12 ≤ bc) (hbs : 1200 ≤ bs) (rest : mn_R X LX bc bs i g Q) : gm_Wp X LX 280 bc bs 370 1362 L [] (245 + 4 * g) K R M Q := by
  obtain ⟨N, lw, A, im, t, w, f, hM⟩ := hM
  refine gm_sz (gm_p_load (pc := 1362) (i := .aload_n 1) (sr := 2) (j := 1) (by decide +kernel) rfl hL.2.2.1 rfl) ?_
  refine mn_arg (pc := 1363) (j := 1) (by decide +kernel) (by decide +kernel) (by decide +kernel) (by decide +kernel) (by decide +kernel) hL hi (by decide) hLX ?_
  refine mn_arg (pc := 1369) (j := 2) (by decide +kernel) (by decide +kernel) (by decide +kernel) (by decide +kernel) (by decide +kernel) hL hi (by decide) hLX ?_
  refine mn_arg (pc := 1375) (j := 3) (by decide +kernel) (by decide +kernel) (by decide +kernel) (by decide +kernel) (by decide +kernel) hL hi (by decide) hLX ?_
  refine mn_bool (pc := 1381) (by decide +kernel) (by decide +kernel) (by decide +kernel) (by decide +kernel) ?_
  refine gm_sz (gm_p_load (pc := 1389) (i := .aload_n 3) (sr := 2) (j := 3) (by decide +kernel) rfl hL.2.2.2.2.1 rfl) ?_
  refine rq_x (pc := 1390) (ix := 248) (mj := 200) (xs := [X (i + 1), X (i + 2), bz (X (i + 3))]) (st := []) (ds := [(-2147483648, 2147483647), (-2147483648, 2147483647), (0, 1)]) (r := true) hb (by omega) hM (by decide +kernel) (by decide +kernel) (by decide +kernel) (by decide +kernel) (show 5 = gm_na 200 by decide +kernel) (show 5 ≤ gm_ml 200 by decide +kernel) (Nat.le_of_ble_eq_true rfl) ax_soonest_s al_soonest_s ax_soonest_c al_soonest_c ax_soonest_v al_soonest_v (bc_in1 (mn_w (hX _)) (bc_in1 (mn_w (hX _)) (bc_in1 ⟨bz_0, bz_1⟩ bc_in0))) (List.forall_mem_cons.mpr ⟨hX _, (List.forall_mem_cons.mpr ⟨hX _, (List.forall_mem_cons.mpr ⟨⟨Int.le_trans (by decide) bz_0, Int.lt_of_le_of_lt bz_1 (by decide)⟩, (fun _ h => nomatch h)⟩)⟩)⟩) (by omega) (by omega) ?_
  intro u1 la1 K1 R1 M1 hu1 hb1 hM1
  obtain ⟨y1, rfl⟩ : ∃ y, u1 = some (gm_vi y) := hu1
  show gm_Wp X LX 280 _ _ 370 1393 L [gm_vi y1] (245 + 4 * g) K1 R1 M1 Q
  refine gm_sz (gm_p_stor (pc := 1393) (i := .istore 5) (sr := 0) (j := 5) (by decide +kernel) rfl (by show 5 + 0 < L.length; have := hL.1; omega) rfl) ?_
  have hL5 := mn_L_s (y := y1) hL (j := 5) (Or.inl rfl)
  have l55 := mn_l5 (y := y1) hL
  generalize gm_lst L 5 (gm_vi y1) = L5 at hL5 l55 ⊢
  refine gm_sz (gm_p_load (pc := 1395) (i := .aload_n 2) (sr := 2) (j := 2) (by decide +kernel) rfl hL5.2.2.2.1 rfl) ?_
  refine mn_arg (pc := 1396) (j := 1) (by decide +kernel) (by decide +kernel) (by decide +kernel) (by decide +kernel) (by decide +kernel) hL5 hi (by decide) hLX ?_
  refine mn_arg (pc := 1402) (j := 2) (by decide +kernel) (by decide +kernel) (by decide +kernel) (by decide +kernel) (by decide +kernel) hL5 hi (by decide) hLX ?_
  refine mn_arg (pc := 1408) (j := 3) (by decide +kernel) (by decide +kernel) (by decide +kernel) (by decide +kernel) (by decide +kernel) hL5 hi (by decide) hLX ?_
  refine mn_bool (pc := 1414) (by decide +kernel) (by decide +kernel) (by decide +kernel) (by decide +kernel) ?_
  refine rq_m (pc := 1422) (ix := 251) (mj := 349) (xs := [X (i + 1), X (i + 2), bz (X (i + 3))]) (st := []) (ds := [(-2147483648, 2147483647), (-2147483648, 2147483647), (0, 1)]) (r := true) hb1 (by omega) hM1 (by decide +kernel) (by decide +kernel) (by decide +kernel) (by decide +kernel) (show 3 = gm_na 349 by decide +kernel) (show 4 ≤ gm_ml 349 by decide +kernel) (Nat.le_of_ble_eq_true rfl) am_soonest_s am_soonest_c am_soonest_v (bc_in1 (mn_w (hX _)) (bc_in1 (mn_w (hX _)) (bc_in1 ⟨bz_0, bz_1⟩ bc_in0))) (List.forall_mem_cons.mpr ⟨hX _, (List.forall_mem_cons.mpr ⟨hX _, (List.forall_mem_cons.mpr ⟨⟨Int.le_trans (by decide) bz_0, Int.lt_of_le_of_lt bz_1 (by decide)⟩, (fun _ h => nomatch h)⟩)⟩)⟩) (by omega) (by omega) ?_
  intro u2 la2 K2 R2 M2 hu2 hb2 hM2
  obtain ⟨y2, rfl⟩ : ∃ y, u2 = some (gm_vi y) := hu2
  show gm_Wp X LX 280 _ _ 370 1425 L5 [gm_vi y2] (245 + 4 * g) K2 R2 M2 Q
  refine gm_sz (gm_p_stor (pc := 1425) (i := .istore 6) (sr := 0) (j := 6) (by decide +kernel) rfl (by show 6 + 0 < L5.length; have := hL5.1; omega) rfl) ?_
  have hL6 := mn_L_s (y := y2) hL5 (j := 6) (Or.inr rfl)
  have l66 := mn_l6 (y := y2) hL5
  have l65 := mn_l65 (y := y2) l55
  generalize gm_lst L5 6 (gm_vi y2) = L6 at hL6 l66 l65 ⊢
  refine gm_sz (gm_p_goto (pc := 1427) (off := 566) (by decide +kernel) (by decide)) ?_
  exact gm_Wp_wk (Nat.le_refl _) (by omega) (by omega) (rest g _ _ _ _ L6 hb2 (by omega) ⟨_, _, _, _, _, _, _, hM2⟩ hL6)
theorem mc_31 (hb : bg g la K R M) (hg : g < 9990) (hM : RELW la K M) (hL : mn_L i L) (hi : 0 ≤ i ∧ i + 6 ≤ (LX : Int)) (hLX : LX ≤ 3072) (hX : ∀ j, gm_ir (X j)) (hbc : 12 ≤ bc) (hbs : 1200 ≤ bs) (rest : mn_R X LX bc bs i g Q) : gm_Wp X LX 280 bc bs 370 1430 L [] (245 + 4 * g) K R M Q := by
  obtain ⟨N, lw, A, im, t, w, f, hM⟩ := hM
  refine gm_sz (gm_p_load (pc := 1430) (i := .aload_n 1) (sr := 2) (j := 1) (by decide +kernel) rfl hL.2.2.1 rfl) ?_
  refine mn_arg (pc := 1431) (j := 1) (by decide +kernel) (by decide +kernel) (by decide +kernel) (by decide +kernel) (by decide +kernel) hL hi (by decide) hLX ?_
  refine mn_arg (pc := 1437) (j := 2) (by decide +kernel) (by decide +kernel) (by decide +kernel) (by decide +kernel) (by decide +kernel) hL hi (by decide) hLX ?_
  refine mn_arg (pc := 1443) (j := 3) (by decide +kernel) (by decide +kernel) (by decide +kernel) (by decide +kernel) (by decide +kernel) hL hi (by decide) hLX ?_
  refine gm_sz (gm_p_load (pc := 1449) (i := .aload_n 3) (sr := 2) (j := 3) (by decide +kernel) rfl hL.2.2.2.2.1 rfl) ?_
  refine rq_x (pc := 1450) (ix := 252) (mj := 206) (xs := [X (i + 1), X (i + 2), X (i + 3)]) (st := []) (ds := [(-2147483648, 2147483647), (-2147483648, 2147483647), (-2147483648, 2147483647)]) (r := true) hb (by omega) hM (by decide +kernel) (by decide +kernel) (by decide +kernel) (by decide +kernel) (show 5 = gm_na 206 by decide +kernel) (show 5 ≤ gm_ml 206 by decide +kernel) (Nat.le_of_ble_eq_true rfl) ax_chain_s al_chain_s ax_chain_c al_chain_c ax_chain_v al_chain_v (bc_in1 (mn_w (hX _)) (bc_in1 (mn_w (hX _)) (bc_in1 (mn_w (hX _)) bc_in0))) (List.forall_mem_cons.mpr ⟨hX _, (List.forall_mem_cons.mpr ⟨hX _, (List.forall_mem_cons.mpr ⟨hX _, (fun _ h => nomatch h)⟩)⟩)⟩) (by omega) (by omega) ?_
  intro u1 la1 K1 R1 M1 hu1 hb1 hM1
  obtain ⟨y1, rfl⟩ : ∃ y, u1 = some (gm_vi y) := hu1
  show gm_Wp X LX 280 _ _ 370 1453 L [gm_vi y1] (245 + 4 * g) K1 R1 M1 Q
  refine gm_sz (gm_p_stor (pc := 1453) (i := .istore 5) (sr := 0) (j := 5) (by decide +kernel) rfl (by show 5 + 0 < L.length; have := hL.1; omega) rfl) ?_
  have hL5 := mn_L_s (y := y1) hL (j := 5) (Or.inl rfl)
  have l55 := mn_l5 (y := y1) hL
  generalize gm_lst L 5 (gm_vi y1) = L5 at hL5 l55 ⊢
  refine gm_sz (gm_p_load (pc := 1455) (i := .aload_n 2) (sr := 2) (j := 2) (by decide +kernel) rfl hL5.2.2.2.1 rfl) ?_
  refine mn_arg (pc := 1456) (j := 1) (by decide +kernel) (by decide +kernel) (by decide +kernel) (by decide +kernel) (by decide +kernel) hL5 hi (by decide) hLX ?_
  refine mn_arg (pc := 1462) (j := 2) (by decide +kernel) (by decide +kernel) (by decide +kernel) (by decide +kernel) (by decide +kernel) hL5 hi (by decide) hLX ?_
  refine mn_arg (pc := 1468) (j := 3) (by decide +kernel) (by decide +kernel) (by decide +kernel) (by decide +kernel) (by decide +kernel) hL5 hi (by decide) hLX ?_
  refine rq_m (pc := 1474) (ix := 254) (mj := 354) (xs := [X (i + 1), X (i + 2), X (i + 3)]) (st := []) (ds := [(-2147483648, 2147483647), (-2147483648, 2147483647), (-2147483648, 2147483647)]) (r := true) hb1 (by omega) hM1 (by decide +kernel) (by decide +kernel) (by decide +kernel) (by decide +kernel) (show 3 = gm_na 354 by decide +kernel) (show 4 ≤ gm_ml 354 by decide +kernel) (Nat.le_of_ble_eq_true rfl) am_chain_s am_chain_c am_chain_v (bc_in1 (mn_w (hX _)) (bc_in1 (mn_w (hX _)) (bc_in1 (mn_w (hX _)) bc_in0))) (List.forall_mem_cons.mpr ⟨hX _, (List.forall_mem_cons.mpr ⟨hX _, (List.forall_mem_cons.mpr ⟨hX _, (fun _ h => nomatch h)⟩)⟩)⟩) (by omega) (by omega) ?_
  intro u2 la2 K2 R2 M2 hu2 hb2 hM2
  obtain ⟨y2, rfl⟩ : ∃ y, u2 = some (gm_vi y) := hu2
  show gm_Wp X LX 280 _ _ 370 1477 L5 [gm_vi y2] (245 + 4 * g) K2 R2 M2 Q
  refine gm_sz (gm_p_stor (pc := 1477) (i := .istore 6) (sr := 0) (j := 6) (by decide +kernel) rfl (by show 6 + 0 < L5.length; have := hL5.1; omega) rfl) ?_
  have hL6 := mn_L_s (y := y2) hL5 (j := 6) (Or.inr rfl)
  have l66 := mn_l6 (y := y2) hL5
  have l65 := mn_l65 (y := y2) l55
  generalize gm_lst L5 6 (gm_vi y2) = L6 at hL6 l66 l65 ⊢
  refine gm_sz (gm_p_goto (pc := 1479) (off := 514) (by decide +kernel) (by decide)) ?_
  exact gm_Wp_wk (Nat.le_refl _) (by omega) (by omega) (rest g _ _ _ _ L6 hb2 (by omega) ⟨_, _, _, _, _, _, _, hM2⟩ hL6)
end MCC
end
/-! 7d03.mc -/
section
/-! THE LAW'S CASES, on. -/
section MCC
variable {X : Int → Int} {LX g bc bs : Nat} {i : Int} {la : Nat → Nat} {K : gm_K} {R : gm_R} {M : gm_M} {Q : gm_Q} {L : gm_L}
theorem mc_32 (hb : bg g la K R M) (hg : g < 9990) (hM : RELW la K M) (hL : mn_L i L) (hi : 0 ≤ i ∧ i + 6 ≤ (LX : Int)) (hLX : LX ≤ 3072) (hX : ∀ j, gm_ir (X j)) (hbc : 12 ≤ bc) (hbs : 1200 ≤ bs) (rest : mn_R X LX bc bs i g Q) : gm_Wp X LX 280 bc bs 370 1482 L [] (245 + 4 * g) K R M Q := by
  obtain ⟨N, lw, A, im, t, w, f, hM⟩ := hM
  refine gm_sz (gm_p_load (pc := 1482) (i := .aload_n 1) (sr := 2) (j := 1) (by decide +kernel) rfl hL.2.2.1 rfl) ?_
  refine mn_arg (pc := 1483) (j := 1) (by decide +kernel) (by decide +kernel) (by decide +kernel) (by decide +kernel) (by decide +kernel) hL hi (by decide) hLX ?_
  refine mn_arg (pc := 1489) (j := 2) (by decide +kernel) (by decide +kernel) (by decide +kernel) (by decide +kernel) (by decide +kernel) hL hi (by decide) hLX ?_
  refine gm_sz (gm_p_load (pc := 1495) (i := .aload_n 3) (sr := 2) (j := 3) (by decide +kernel) rfl hL.2.2.2.2.1 rfl) ?_
  refine rq_x (pc := 1496) (ix := 255) (mj := 210) (xs := [X (i + 1), X (i + 2)]) (st := []) (ds := [(-2147483648, 2147483647), (-2147483648, 2147483647)]) (r := true) hb (by omega) hM (by decide +kernel) (by decide +kernel) (by decide +kernel) (by decide +kernel) (show 4 = gm_na 210 by decide +kernel) (show 4 ≤ gm_ml 210 by decide +kernel) (Nat.le_of_ble_eq_true rfl) ax_reached_s al_reached_s ax_reached_c al_reached_c ax_reached_v al_reached_v (bc_in1 (mn_w (hX _)) (bc_in1 (mn_w (hX _)) bc_in0)) (List.forall_mem_cons.mpr ⟨hX _, (List.forall_mem_cons.mpr ⟨hX _, (fun _ h => nomatch h)⟩)⟩) (by omega) (by omega) ?_
  intro u1 la1 K1 R1 M1 hu1 hb1 hM1
  obtain ⟨y1, rfl⟩ : ∃ y, u1 = some (gm_vi y) := hu1
  show gm_Wp X LX 280 _ _ 370 1499 L [gm_vi y1] (245 + 4 * g) K1 R1 M1 Q
  refine gm_sz (gm_p_stor (pc := 1499) (i := .istore 5) (sr := 0) (j := 5) (by decide +kernel) rfl (by show 5 + 0 < L.length; have := hL.1; omega) rfl) ?_
  have hL5 := mn_L_s (y := y1) hL (j := 5) (Or.inl rfl)
  have l55 := mn_l5 (y := y1) hL
  generalize gm_lst L 5 (gm_vi y1) = L5 at hL5 l55 ⊢
  refine gm_sz (gm_p_load (pc := 1501) (i := .aload_n 2) (sr := 2) (j := 2) (by decide +kernel) rfl hL5.2.2.2.1 rfl) ?_
  refine mn_arg (pc := 1502) (j := 1) (by decide +kernel) (by decide +kernel) (by decide +kernel) (by decide +kernel) (by decide +kernel) hL5 hi (by decide) hLX ?_
  refine mn_arg (pc := 1508) (j := 2) (by decide +kernel) (by decide +kernel) (by decide +kernel) (by decide +kernel) (by decide +kernel) hL5 hi (by decide) hLX ?_
  refine rq_m (pc := 1514) (ix := 257) (mj := 356) (xs := [X (i + 1), X (i + 2)]) (st := []) (ds := [(-2147483648, 2147483647), (-2147483648, 2147483647)]) (r := true) hb1 (by omega) hM1 (by decide +kernel) (by decide +kernel) (by decide +kernel) (by decide +kernel) (show 2 = gm_na 356 by decide +kernel) (show 3 ≤ gm_ml 356 by decide +kernel) (Nat.le_of_ble_eq_true rfl) am_reached_s am_reached_c am_reached_v (bc_in1 (mn_w (hX _)) (bc_in1 (mn_w (hX _)) bc_in0)) (List.forall_mem_cons.mpr ⟨hX _, (List.forall_mem_cons.mpr ⟨hX _, (fun _ h => nomatch h)⟩)⟩) (by omega) (by omega) ?_
  intro u2 la2 K2 R2 M2 hu2 hb2 hM2
  obtain ⟨y2, rfl⟩ : ∃ y, u2 = some (gm_vi y) := hu2
  show gm_Wp X LX 280 _ _ 370 1517 L5 [gm_vi y2] (245 + 4 * g) K2 R2 M2 Q
  refine gm_sz (gm_p_stor (pc := 1517) (i := .istore 6) (sr := 0) (j := 6) (by decide +kernel) rfl (by show 6 + 0 < L5.length; have := hL5.1; omega) rfl) ?_
  have hL6 := mn_L_s (y := y2) hL5 (j := 6) (Or.inr rfl)
  have l66 := mn_l6 (y := y2) hL5
  have l65 := mn_l65 (y := y2) l55
  generalize gm_lst L5 6 (gm_vi y2) = L6 at hL6 l66 l65 ⊢
  refine gm_sz (gm_p_goto (pc := 1519) (off := 474) (by decide +kernel) (by decide)) ?_
  exact gm_Wp_wk (Nat.le_refl _) (by omega) (by omega) (rest g _ _ _ _ L6 hb2 (by omega) ⟨_, _, _, _, _, _, _, hM2⟩ hL6)
theorem mc_33 (hb : bg g la K R M) (hg : g < 9990) (hM : RELW la K M) (hL : mn_L i L) (hi : 0 ≤ i ∧ i + 6 ≤ (LX : Int)) (hLX : LX ≤ 3072) (hX : ∀ j, gm_ir (X j)) (hbc : 12 ≤ bc) (hbs : 1200 ≤ bs) (rest : mn_R X LX bc bs i g Q) : gm_Wp X LX 280 bc bs 370 1522 L [] (245 + 4 * g) K R M Q := by
  obtain ⟨N, lw, A, im, t, w, f, hM⟩ := hM
  refine gm_sz (gm_p_load (pc := 1522) (i := .aload_n 1) (sr := 2) (j := 1) (by decide +kernel) rfl hL.2.2.1 rfl) ?_
  refine mn_arg (pc := 1523) (j := 1) (by decide +kernel) (by decide +kernel) (by decide +kernel) (by decide +kernel) (by decide +kernel) hL hi (by decide) hLX ?_
  refine mn_arg (pc := 1529) (j := 2) (by decide +kernel) (by decide +kernel) (by decide +kernel) (by decide +kernel) (by decide +kernel) hL hi (by decide) hLX ?_
  refine mn_bool (pc := 1535) (by decide +kernel) (by decide +kernel) (by decide +kernel) (by decide +kernel) ?_
  refine gm_sz (gm_p_load (pc := 1543) (i := .aload_n 3) (sr := 2) (j := 3) (by decide +kernel) rfl hL.2.2.2.2.1 rfl) ?_
  refine rq_x (pc := 1544) (ix := 258) (mj := 212) (xs := [X (i + 1), bz (X (i + 2))]) (st := []) (ds := [(-2147483648, 2147483647), (0, 1)]) (r := true) hb (by omega) hM (by decide +kernel) (by decide +kernel) (by decide +kernel) (by decide +kernel) (show 4 = gm_na 212 by decide +kernel) (show 4 ≤ gm_ml 212 by decide +kernel) (Nat.le_of_ble_eq_true rfl) ax_thieves_s al_thieves_s ax_thieves_c al_thieves_c ax_thieves_v al_thieves_v (bc_in1 (mn_w (hX _)) (bc_in1 ⟨bz_0, bz_1⟩ bc_in0)) (List.forall_mem_cons.mpr ⟨hX _, (List.forall_mem_cons.mpr ⟨⟨Int.le_trans (by decide) bz_0, Int.lt_of_le_of_lt bz_1 (by decide)⟩, (fun _ h => nomatch h)⟩)⟩) (by omega) (by omega) ?_
  intro u1 la1 K1 R1 M1 hu1 hb1 hM1
  obtain ⟨y1, rfl⟩ : ∃ y, u1 = some (gm_vi y) := hu1
  show gm_Wp X LX 280 _ _ 370 1547 L [gm_vi y1] (245 + 4 * g) K1 R1 M1 Q
  refine gm_sz (gm_p_stor (pc := 1547) (i := .istore 5) (sr := 0) (j := 5) (by decide +kernel) rfl (by show 5 + 0 < L.length; have := hL.1; omega) rfl) ?_
  have hL5 := mn_L_s (y := y1) hL (j := 5) (Or.inl rfl)
  have l55 := mn_l5 (y := y1) hL
  generalize gm_lst L 5 (gm_vi y1) = L5 at hL5 l55 ⊢
  refine gm_sz (gm_p_load (pc := 1549) (i := .aload_n 2) (sr := 2) (j := 2) (by decide +kernel) rfl hL5.2.2.2.1 rfl) ?_
  refine mn_arg (pc := 1550) (j := 1) (by decide +kernel) (by decide +kernel) (by decide +kernel) (by decide +kernel) (by decide +kernel) hL5 hi (by decide) hLX ?_
  refine mn_arg (pc := 1556) (j := 2) (by decide +kernel) (by decide +kernel) (by decide +kernel) (by decide +kernel) (by decide +kernel) hL5 hi (by decide) hLX ?_
  refine mn_bool (pc := 1562) (by decide +kernel) (by decide +kernel) (by decide +kernel) (by decide +kernel) ?_
  refine rq_m (pc := 1570) (ix := 261) (mj := 357) (xs := [X (i + 1), bz (X (i + 2))]) (st := []) (ds := [(-2147483648, 2147483647), (0, 1)]) (r := true) hb1 (by omega) hM1 (by decide +kernel) (by decide +kernel) (by decide +kernel) (by decide +kernel) (show 2 = gm_na 357 by decide +kernel) (show 3 ≤ gm_ml 357 by decide +kernel) (Nat.le_of_ble_eq_true rfl) am_thieves_s am_thieves_c am_thieves_v (bc_in1 (mn_w (hX _)) (bc_in1 ⟨bz_0, bz_1⟩ bc_in0)) (List.forall_mem_cons.mpr ⟨hX _, (List.forall_mem_cons.mpr ⟨⟨Int.le_trans (by decide) bz_0, Int.lt_of_le_of_lt bz_1 (by decide)⟩, (fun _ h => nomatch h)⟩)⟩) (by omega) (by omega) ?_
  intro u2 la2 K2 R2 M2 hu2 hb2 hM2
  obtain ⟨y2, rfl⟩ : ∃ y, u2 = some (gm_vi y) := hu2
  show gm_Wp X LX 280 _ _ 370 1573 L5 [gm_vi y2] (245 + 4 * g) K2 R2 M2 Q
  refine gm_sz (gm_p_stor (pc := 1573) (i := .istore 6) (sr := 0) (j := 6) (by decide +kernel) rfl (by show 6 + 0 < L5.length; have := hL5.1; omega) rfl) ?_
  have hL6 := mn_L_s (y := y2) hL5 (j := 6) (Or.inr rfl)
  have l66 := mn_l6 (y := y2) hL5
  have l65 := mn_l65 (y := y2) l55
  generalize gm_lst L5 6 (gm_vi y2) = L6 at hL6 l66 l65 ⊢
  refine gm_sz (gm_p_goto (pc := 1575) (off := 418) (by decide +kernel) (by decide)) ?_
  exact gm_Wp_wk (Nat.le_refl _) (by omega) (by omega) (rest g _ _ _ _ L6 hb2 (by omega) ⟨_, _, _, _, _, _, _, hM2⟩ hL6)
theorem mc_34 (hb : bg g la K R M) (hg : g < 9990) (hM : RELW la K M) (hL : mn_L i L) (hi : 0 ≤ i ∧ i + 6 ≤ (LX : Int)) (hLX : LX ≤ 3072) (hX : ∀ j, gm_ir (X j)) (hbc : 12 ≤ bc) (hbs : 1200 ≤ bs) (rest : mn_R X LX bc bs i g Q) : gm_Wp X LX 280 bc bs 370 1578 L [] (245 + 4 * g) K R M Q := by
  obtain ⟨N, lw, A, im, t, w, f, hM⟩ := hM
  refine gm_sz (gm_p_load (pc := 1578) (i := .aload_n 1) (sr := 2) (j := 1) (by decide +kernel) rfl hL.2.2.1 rfl) ?_
  refine mn_arg (pc := 1579) (j := 1) (by decide +kernel) (by decide +kernel) (by decide +kernel) (by decide +kernel) (by decide +kernel) hL hi (by decide) hLX ?_
  refine mn_arg (pc := 1585) (j := 2) (by decide +kernel) (by decide +kernel) (by decide +kernel) (by decide +kernel) (by decide +kernel) hL hi (by decide) hLX ?_
  refine mn_bool (pc := 1591) (by decide +kernel) (by decide +kernel) (by decide +kernel) (by decide +kernel) ?_
  refine gm_sz (gm_p_load (pc := 1599) (i := .aload_n 3) (sr := 2) (j := 3) (by decide +kernel) rfl hL.2.2.2.2.1 rfl) ?_
  refine rq_x (pc := 1600) (ix := 262) (mj := 217) (xs := [X (i + 1), bz (X (i + 2))]) (st := []) (ds := [(-2147483648, 2147483647), (0, 1)]) (r := true) hb (by omega) hM (by decide +kernel) (by decide +kernel) (by decide +kernel) (by decide +kernel) (show 4 = gm_na 217 by decide +kernel) (show 4 ≤ gm_ml 217 by decide +kernel) (Nat.le_of_ble_eq_true rfl) ax_watchman_s al_watchman_s ax_watchman_c al_watchman_c ax_watchman_v al_watchman_v (bc_in1 (mn_w (hX _)) (bc_in1 ⟨bz_0, bz_1⟩ bc_in0)) (List.forall_mem_cons.mpr ⟨hX _, (List.forall_mem_cons.mpr ⟨⟨Int.le_trans (by decide) bz_0, Int.lt_of_le_of_lt bz_1 (by decide)⟩, (fun _ h => nomatch h)⟩)⟩) (by omega) (by omega) ?_
  intro u1 la1 K1 R1 M1 hu1 hb1 hM1
  obtain ⟨y1, rfl⟩ : ∃ y, u1 = some (gm_vi y) := hu1
  show gm_Wp X LX 280 _ _ 370 1603 L [gm_vi y1] (245 + 4 * g) K1 R1 M1 Q
  refine gm_sz (gm_p_stor (pc := 1603) (i := .istore 5) (sr := 0) (j := 5) (by decide +kernel) rfl (by show 5 + 0 < L.length; have := hL.1; omega) rfl) ?_
  have hL5 := mn_L_s (y := y1) hL (j := 5) (Or.inl rfl)
  have l55 := mn_l5 (y := y1) hL
  generalize gm_lst L 5 (gm_vi y1) = L5 at hL5 l55 ⊢
  refine gm_sz (gm_p_load (pc := 1605) (i := .aload_n 2) (sr := 2) (j := 2) (by decide +kernel) rfl hL5.2.2.2.1 rfl) ?_
  refine mn_arg (pc := 1606) (j := 1) (by decide +kernel) (by decide +kernel) (by decide +kernel) (by decide +kernel) (by decide +kernel) hL5 hi (by decide) hLX ?_
  refine mn_arg (pc := 1612) (j := 2) (by decide +kernel) (by decide +kernel) (by decide +kernel) (by decide +kernel) (by decide +kernel) hL5 hi (by decide) hLX ?_
  refine mn_bool (pc := 1618) (by decide +kernel) (by decide +kernel) (by decide +kernel) (by decide +kernel) ?_
  refine rq_m (pc := 1626) (ix := 264) (mj := 359) (xs := [X (i + 1), bz (X (i + 2))]) (st := []) (ds := [(-2147483648, 2147483647), (0, 1)]) (r := true) hb1 (by omega) hM1 (by decide +kernel) (by decide +kernel) (by decide +kernel) (by decide +kernel) (show 2 = gm_na 359 by decide +kernel) (show 3 ≤ gm_ml 359 by decide +kernel) (Nat.le_of_ble_eq_true rfl) am_watchman_s am_watchman_c am_watchman_v (bc_in1 (mn_w (hX _)) (bc_in1 ⟨bz_0, bz_1⟩ bc_in0)) (List.forall_mem_cons.mpr ⟨hX _, (List.forall_mem_cons.mpr ⟨⟨Int.le_trans (by decide) bz_0, Int.lt_of_le_of_lt bz_1 (by decide)⟩, (fun _ h => nomatch h)⟩)⟩) (by omega) (by omega) ?_
  intro u2 la2 K2 R2 M2 hu2 hb2 hM2
  obtain ⟨y2, rfl⟩ : ∃ y, u2 = some (gm_vi y) := hu2
  show gm_Wp X LX 280 _ _ 370 1629 L5 [gm_vi y2] (245 + 4 * g) K2 R2 M2 Q
  refine gm_sz (gm_p_stor (pc := 1629) (i := .istore 6) (sr := 0) (j := 6) (by decide +kernel) rfl (by show 6 + 0 < L5.length; have := hL5.1; omega) rfl) ?_
  have hL6 := mn_L_s (y := y2) hL5 (j := 6) (Or.inr rfl)
  have l66 := mn_l6 (y := y2) hL5
  have l65 := mn_l65 (y := y2) l55
  generalize gm_lst L5 6 (gm_vi y2) = L6 at hL6 l66 l65 ⊢
  refine gm_sz (gm_p_goto (pc := 1631) (off := 362) (by decide +kernel) (by decide)) ?_
  exact gm_Wp_wk (Nat.le_refl _) (by omega) (by omega) (rest g _ _ _ _ L6 hb2 (by omega) ⟨_, _, _, _, _, _, _, hM2⟩ hL6)
theorem mc_35 (hb : bg g la K R M) (hg : g < 9990) (hM : RELW la K M) (hL : mn_L i L) (hi : 0 ≤ i ∧ i + 6 ≤ (LX : Int)) (hLX : LX ≤ 3072) (hX : ∀ j, gm_ir (X j)) (hbc : 12 ≤ bc) (hbs : 1200 ≤ bs) (rest : mn_R X LX bc bs i g Q) : gm_Wp X LX 280 bc bs 370 1634 L [] (245 + 4 * g) K R M Q := by
  obtain ⟨N, lw, A, im, t, w, f, hM⟩ := hM
  refine gm_sz (gm_p_load (pc := 1634) (i := .aload_n 1) (sr := 2) (j := 1) (by decide +kernel) rfl hL.2.2.1 rfl) ?_
  refine mn_arg (pc := 1635) (j := 1) (by decide +kernel) (by decide +kernel) (by decide +kernel) (by decide +kernel) (by decide +kernel) hL hi (by decide) hLX ?_
  refine mn_arg (pc := 1641) (j := 2) (by decide +kernel) (by decide +kernel) (by decide +kernel) (by decide +kernel) (by decide +kernel) hL hi (by decide) hLX ?_
  refine gm_sz (gm_p_load (pc := 1647) (i := .aload_n 3) (sr := 2) (j := 3) (by decide +kernel) rfl hL.2.2.2.2.1 rfl) ?_
  refine rq_x (pc := 1648) (ix := 265) (mj := 220) (xs := [X (i + 1), X (i + 2)]) (st := []) (ds := [(-2147483648, 2147483647), (-2147483648, 2147483647)]) (r := true) hb (by omega) hM (by decide +kernel) (by decide +kernel) (by decide +kernel) (by decide +kernel) (show 4 = gm_na 220 by decide +kernel) (show 4 ≤ gm_ml 220 by decide +kernel) (Nat.le_of_ble_eq_true rfl) ax_meeting_s al_meeting_s ax_meeting_c al_meeting_c ax_meeting_v al_meeting_v (bc_in1 (mn_w (hX _)) (bc_in1 (mn_w (hX _)) bc_in0)) (List.forall_mem_cons.mpr ⟨hX _, (List.forall_mem_cons.mpr ⟨hX _, (fun _ h => nomatch h)⟩)⟩) (by omega) (by omega) ?_
  intro u1 la1 K1 R1 M1 hu1 hb1 hM1
  obtain ⟨y1, rfl⟩ : ∃ y, u1 = some (gm_vi y) := hu1
  show gm_Wp X LX 280 _ _ 370 1651 L [gm_vi y1] (245 + 4 * g) K1 R1 M1 Q
  refine gm_sz (gm_p_stor (pc := 1651) (i := .istore 5) (sr := 0) (j := 5) (by decide +kernel) rfl (by show 5 + 0 < L.length; have := hL.1; omega) rfl) ?_
  have hL5 := mn_L_s (y := y1) hL (j := 5) (Or.inl rfl)
  have l55 := mn_l5 (y := y1) hL
  generalize gm_lst L 5 (gm_vi y1) = L5 at hL5 l55 ⊢
  refine gm_sz (gm_p_load (pc := 1653) (i := .aload_n 2) (sr := 2) (j := 2) (by decide +kernel) rfl hL5.2.2.2.1 rfl) ?_
  refine mn_arg (pc := 1654) (j := 1) (by decide +kernel) (by decide +kernel) (by decide +kernel) (by decide +kernel) (by decide +kernel) hL5 hi (by decide) hLX ?_
  refine mn_arg (pc := 1660) (j := 2) (by decide +kernel) (by decide +kernel) (by decide +kernel) (by decide +kernel) (by decide +kernel) hL5 hi (by decide) hLX ?_
  refine rq_m (pc := 1666) (ix := 267) (mj := 360) (xs := [X (i + 1), X (i + 2)]) (st := []) (ds := [(-2147483648, 2147483647), (-2147483648, 2147483647)]) (r := true) hb1 (by omega) hM1 (by decide +kernel) (by decide +kernel) (by decide +kernel) (by decide +kernel) (show 2 = gm_na 360 by decide +kernel) (show 3 ≤ gm_ml 360 by decide +kernel) (Nat.le_of_ble_eq_true rfl) am_meeting_s am_meeting_c am_meeting_v (bc_in1 (mn_w (hX _)) (bc_in1 (mn_w (hX _)) bc_in0)) (List.forall_mem_cons.mpr ⟨hX _, (List.forall_mem_cons.mpr ⟨hX _, (fun _ h => nomatch h)⟩)⟩) (by omega) (by omega) ?_
  intro u2 la2 K2 R2 M2 hu2 hb2 hM2
  obtain ⟨y2, rfl⟩ : ∃ y, u2 = some (gm_vi y) := hu2
  show gm_Wp X LX 280 _ _ 370 1669 L5 [gm_vi y2] (245 + 4 * g) K2 R2 M2 Q
  refine gm_sz (gm_p_stor (pc := 1669) (i := .istore 6) (sr := 0) (j := 6) (by decide +kernel) rfl (by show 6 + 0 < L5.length; have := hL5.1; omega) rfl) ?_
  have hL6 := mn_L_s (y := y2) hL5 (j := 6) (Or.inr rfl)
  have l66 := mn_l6 (y := y2) hL5
  have l65 := mn_l65 (y := y2) l55
  generalize gm_lst L5 6 (gm_vi y2) = L6 at hL6 l66 l65 ⊢
  refine gm_sz (gm_p_goto (pc := 1671) (off := 322) (by decide +kernel) (by decide)) ?_
  exact gm_Wp_wk (Nat.le_refl _) (by omega) (by omega) (rest g _ _ _ _ L6 hb2 (by omega) ⟨_, _, _, _, _, _, _, hM2⟩ hL6)
theorem mc_36 (hb : bg g la K R M) (hg : g < 9990) (hM : RELW la K M) (hL : mn_L i L) (hi : 0 ≤ i ∧ i + 6 ≤ (LX : Int)) (hLX : LX ≤ 3072) (hX : ∀ j, gm_ir (X j)) (hbc : 12 ≤ bc) (hbs : 1200 ≤ bs) (rest : mn_R X LX bc bs i g Q) : gm_Wp X LX 280 bc bs 370 1674 L [] (245 + 4 * g) K R M Q := by
  obtain ⟨N, lw, A, im, t, w, f, hM⟩ := hM
  refine gm_sz (gm_p_load (pc := 1674) (i := .aload_n 1) (sr := 2) (j := 1) (by decide +kernel) rfl hL.2.2.1 rfl) ?_
  refine mn_arg (pc := 1675) (j := 1) (by decide +kernel) (by decide +kernel) (by decide +kernel) (by decide +kernel) (by decide +kernel) hL hi (by decide) hLX ?_
  refine gm_sz (gm_p_load (pc := 1681) (i := .aload_n 3) (sr := 2) (j := 3) (by decide +kernel) rfl hL.2.2.2.2.1 rfl) ?_
  refine rq_x (pc := 1682) (ix := 268) (mj := 222) (xs := [X (i + 1)]) (st := []) (ds := [(-2147483648, 2147483647)]) (r := true) hb (by omega) hM (by decide +kernel) (by decide +kernel) (by decide +kernel) (by decide +kernel) (show 3 = gm_na 222 by decide +kernel) (show 3 ≤ gm_ml 222 by decide +kernel) (Nat.le_of_ble_eq_true rfl) ax_outs_s al_outs_s ax_outs_c al_outs_c ax_outs_v al_outs_v (bc_in1 (mn_w (hX _)) bc_in0) (List.forall_mem_cons.mpr ⟨hX _, (fun _ h => nomatch h)⟩) (by omega) (by omega) ?_
  intro u1 la1 K1 R1 M1 hu1 hb1 hM1
  obtain ⟨y1, rfl⟩ : ∃ y, u1 = some (gm_vi y) := hu1
  show gm_Wp X LX 280 _ _ 370 1685 L [gm_vi y1] (245 + 4 * g) K1 R1 M1 Q
  refine gm_sz (gm_p_stor (pc := 1685) (i := .istore 5) (sr := 0) (j := 5) (by decide +kernel) rfl (by show 5 + 0 < L.length; have := hL.1; omega) rfl) ?_
  have hL5 := mn_L_s (y := y1) hL (j := 5) (Or.inl rfl)
  have l55 := mn_l5 (y := y1) hL
  generalize gm_lst L 5 (gm_vi y1) = L5 at hL5 l55 ⊢
  refine gm_sz (gm_p_load (pc := 1687) (i := .aload_n 2) (sr := 2) (j := 2) (by decide +kernel) rfl hL5.2.2.2.1 rfl) ?_
  refine mn_arg (pc := 1688) (j := 1) (by decide +kernel) (by decide +kernel) (by decide +kernel) (by decide +kernel) (by decide +kernel) hL5 hi (by decide) hLX ?_
  refine rq_m (pc := 1694) (ix := 270) (mj := 361) (xs := [X (i + 1)]) (st := []) (ds := [(-2147483648, 2147483647)]) (r := true) hb1 (by omega) hM1 (by decide +kernel) (by decide +kernel) (by decide +kernel) (by decide +kernel) (show 1 = gm_na 361 by decide +kernel) (show 2 ≤ gm_ml 361 by decide +kernel) (Nat.le_of_ble_eq_true rfl) am_outs_s am_outs_c am_outs_v (bc_in1 (mn_w (hX _)) bc_in0) (List.forall_mem_cons.mpr ⟨hX _, (fun _ h => nomatch h)⟩) (by omega) (by omega) ?_
  intro u2 la2 K2 R2 M2 hu2 hb2 hM2
  obtain ⟨y2, rfl⟩ : ∃ y, u2 = some (gm_vi y) := hu2
  show gm_Wp X LX 280 _ _ 370 1697 L5 [gm_vi y2] (245 + 4 * g) K2 R2 M2 Q
  refine gm_sz (gm_p_stor (pc := 1697) (i := .istore 6) (sr := 0) (j := 6) (by decide +kernel) rfl (by show 6 + 0 < L5.length; have := hL5.1; omega) rfl) ?_
  have hL6 := mn_L_s (y := y2) hL5 (j := 6) (Or.inr rfl)
  have l66 := mn_l6 (y := y2) hL5
  have l65 := mn_l65 (y := y2) l55
  generalize gm_lst L5 6 (gm_vi y2) = L6 at hL6 l66 l65 ⊢
  refine gm_sz (gm_p_goto (pc := 1699) (off := 294) (by decide +kernel) (by decide)) ?_
  exact gm_Wp_wk (Nat.le_refl _) (by omega) (by omega) (rest g _ _ _ _ L6 hb2 (by omega) ⟨_, _, _, _, _, _, _, hM2⟩ hL6)
theorem mc_37 (hb : bg g la K R M) (hg : g < 9990) (hM : RELW la K M) (hL : mn_L i L) (hi : 0 ≤ i ∧ i + 6 ≤ (LX : Int)) (hLX : LX ≤ 3072) (hX : ∀ j, gm_ir (X j)) (hbc : 12 ≤ bc) (hbs : 1200 ≤ bs) (rest : mn_R X LX bc bs i g Q) : gm_Wp X LX 280 bc bs 370 1702 L [] (245 + 4 * g) K R M Q := by
  obtain ⟨N, lw, A, im, t, w, f, hM⟩ := hM
  refine gm_sz (gm_p_load (pc := 1702) (i := .aload_n 1) (sr := 2) (j := 1) (by decide +kernel) rfl hL.2.2.1 rfl) ?_
  refine mn_arg (pc := 1703) (j := 1) (by decide +kernel) (by decide +kernel) (by decide +kernel) (by decide +kernel) (by decide +kernel) hL hi (by decide) hLX ?_
  refine rq_d (pc := 1709) (ix := 271) (mj := 52) (xs := [X (i + 1)]) (st := []) (ds := [(-2147483648, 2147483647)]) (r := true) hb (by omega) hM (by decide +kernel) (by decide +kernel) (by decide +kernel) (by decide +kernel) (show 1 = gm_na 52 by decide +kernel) (show 2 ≤ gm_ml 52 by decide +kernel) (Nat.le_of_ble_eq_true rfl) ax_order_s al_order_s ax_order_c al_order_c ax_order_v al_order_v (bc_in1 (mn_w (hX _)) bc_in0) (List.forall_mem_cons.mpr ⟨hX _, (fun _ h => nomatch h)⟩) (by omega) (by omega) ?_
  intro u1 la1 K1 R1 M1 hu1 hb1 hM1
  obtain ⟨y1, rfl⟩ : ∃ y, u1 = some (gm_vi y) := hu1
  show gm_Wp X LX 280 _ _ 370 1712 L [gm_vi y1] (245 + 4 * g) K1 R1 M1 Q
  refine gm_sz (gm_p_pop (pc := 1712) (by decide +kernel) (by simp [gm_sort])) ?_
  refine gm_sz (gm_p_load (pc := 1713) (i := .aload_n 2) (sr := 2) (j := 2) (by decide +kernel) rfl hL.2.2.2.1 rfl) ?_
  refine mn_arg (pc := 1714) (j := 1) (by decide +kernel) (by decide +kernel) (by decide +kernel) (by decide +kernel) (by decide +kernel) hL hi (by decide) hLX ?_
  refine rq_m (pc := 1720) (ix := 274) (mj := 362) (xs := [X (i + 1)]) (st := []) (ds := [(-2147483648, 2147483647)]) (r := true) hb1 (by omega) hM1 (by decide +kernel) (by decide +kernel) (by decide +kernel) (by decide +kernel) (show 1 = gm_na 362 by decide +kernel) (show 2 ≤ gm_ml 362 by decide +kernel) (Nat.le_of_ble_eq_true rfl) am_order_s am_order_c am_order_v (bc_in1 (mn_w (hX _)) bc_in0) (List.forall_mem_cons.mpr ⟨hX _, (fun _ h => nomatch h)⟩) (by omega) (by omega) ?_
  intro u2 la2 K2 R2 M2 hu2 hb2 hM2
  obtain ⟨y2, rfl⟩ : ∃ y, u2 = some (gm_vi y) := hu2
  show gm_Wp X LX 280 _ _ 370 1723 L [gm_vi y2] (245 + 4 * g) K2 R2 M2 Q
  refine gm_sz (gm_p_pop (pc := 1723) (by decide +kernel) (by simp [gm_sort])) ?_
  refine gm_sz (gm_p_goto (pc := 1724) (off := 269) (by decide +kernel) (by decide)) ?_
  exact gm_Wp_wk (Nat.le_refl _) (by omega) (by omega) (rest g _ _ _ _ L hb2 (by omega) ⟨_, _, _, _, _, _, _, hM2⟩ hL)
theorem mc_38 (hb : bg g la K R M) (hg : g < 9990) (hM : RELW la K M) (hL : mn_L i L) (hi : 0 ≤ i ∧ i + 6 ≤ (LX : Int)) (hLX : LX ≤ 3072) (hX : ∀ j, gm_ir (X j)) (hbc : 12 ≤ bc) (hbs : 1200 ≤ bs) (rest : mn_R X LX bc bs i g Q) : gm_Wp X LX 280 bc bs 370 1727 L [] (245 + 4 * g) K R M Q := by
  obtain ⟨N, lw, A, im, t, w, f, hM⟩ := hM
  refine gm_sz (gm_p_load (pc := 1727) (i := .aload_n 1) (sr := 2) (j := 1) (by decide +kernel) rfl hL.2.2.1 rfl) ?_
  refine mn_arg (pc := 1728) (j := 1) (by decide +kernel) (by decide +kernel) (by decide +kernel) (by decide +kernel) (by decide +kernel) hL hi (by decide) hLX ?_
  refine mn_arg (pc := 1734) (j := 2) (by decide +kernel) (by decide +kernel) (by decide +kernel) (by decide +kernel) (by decide +kernel) hL hi (by decide) hLX ?_
  refine mn_bool (pc := 1740) (by decide +kernel) (by decide +kernel) (by decide +kernel) (by decide +kernel) ?_
  refine gm_sz (gm_p_load (pc := 1748) (i := .aload_n 3) (sr := 2) (j := 3) (by decide +kernel) rfl hL.2.2.2.2.1 rfl) ?_
  refine rq_x (pc := 1749) (ix := 275) (mj := 224) (xs := [X (i + 1), bz (X (i + 2))]) (st := []) (ds := [(-2147483648, 2147483647), (0, 1)]) (r := true) hb (by omega) hM (by decide +kernel) (by decide +kernel) (by decide +kernel) (by decide +kernel) (show 4 = gm_na 224 by decide +kernel) (show 4 ≤ gm_ml 224 by decide +kernel) (Nat.le_of_ble_eq_true rfl) ax_streams_s al_streams_s ax_streams_c al_streams_c ax_streams_v al_streams_v (bc_in1 (mn_w (hX _)) (bc_in1 ⟨bz_0, bz_1⟩ bc_in0)) (List.forall_mem_cons.mpr ⟨hX _, (List.forall_mem_cons.mpr ⟨⟨Int.le_trans (by decide) bz_0, Int.lt_of_le_of_lt bz_1 (by decide)⟩, (fun _ h => nomatch h)⟩)⟩) (by omega) (by omega) ?_
  intro u1 la1 K1 R1 M1 hu1 hb1 hM1
  obtain ⟨y1, rfl⟩ : ∃ y, u1 = some (gm_vi y) := hu1
  show gm_Wp X LX 280 _ _ 370 1752 L [gm_vi y1] (245 + 4 * g) K1 R1 M1 Q
  refine gm_sz (gm_p_stor (pc := 1752) (i := .istore 5) (sr := 0) (j := 5) (by decide +kernel) rfl (by show 5 + 0 < L.length; have := hL.1; omega) rfl) ?_
  have hL5 := mn_L_s (y := y1) hL (j := 5) (Or.inl rfl)
  have l55 := mn_l5 (y := y1) hL
  generalize gm_lst L 5 (gm_vi y1) = L5 at hL5 l55 ⊢
  refine gm_sz (gm_p_load (pc := 1754) (i := .aload_n 2) (sr := 2) (j := 2) (by decide +kernel) rfl hL5.2.2.2.1 rfl) ?_
  refine mn_arg (pc := 1755) (j := 1) (by decide +kernel) (by decide +kernel) (by decide +kernel) (by decide +kernel) (by decide +kernel) hL5 hi (by decide) hLX ?_
  refine mn_arg (pc := 1761) (j := 2) (by decide +kernel) (by decide +kernel) (by decide +kernel) (by decide +kernel) (by decide +kernel) hL5 hi (by decide) hLX ?_
  refine mn_bool (pc := 1767) (by decide +kernel) (by decide +kernel) (by decide +kernel) (by decide +kernel) ?_
  refine rq_m (pc := 1775) (ix := 277) (mj := 363) (xs := [X (i + 1), bz (X (i + 2))]) (st := []) (ds := [(-2147483648, 2147483647), (0, 1)]) (r := true) hb1 (by omega) hM1 (by decide +kernel) (by decide +kernel) (by decide +kernel) (by decide +kernel) (show 2 = gm_na 363 by decide +kernel) (show 3 ≤ gm_ml 363 by decide +kernel) (Nat.le_of_ble_eq_true rfl) am_streams_s am_streams_c am_streams_v (bc_in1 (mn_w (hX _)) (bc_in1 ⟨bz_0, bz_1⟩ bc_in0)) (List.forall_mem_cons.mpr ⟨hX _, (List.forall_mem_cons.mpr ⟨⟨Int.le_trans (by decide) bz_0, Int.lt_of_le_of_lt bz_1 (by decide)⟩, (fun _ h => nomatch h)⟩)⟩) (by omega) (by omega) ?_
  intro u2 la2 K2 R2 M2 hu2 hb2 hM2
  obtain ⟨y2, rfl⟩ : ∃ y, u2 = some (gm_vi y) := hu2
  show gm_Wp X LX 280 _ _ 370 1778 L5 [gm_vi y2] (245 + 4 * g) K2 R2 M2 Q
  refine gm_sz (gm_p_stor (pc := 1778) (i := .istore 6) (sr := 0) (j := 6) (by decide +kernel) rfl (by show 6 + 0 < L5.length; have := hL5.1; omega) rfl) ?_
  have hL6 := mn_L_s (y := y2) hL5 (j := 6) (Or.inr rfl)
  have l66 := mn_l6 (y := y2) hL5
  have l65 := mn_l65 (y := y2) l55
  generalize gm_lst L5 6 (gm_vi y2) = L6 at hL6 l66 l65 ⊢
  refine gm_sz (gm_p_goto (pc := 1780) (off := 213) (by decide +kernel) (by decide)) ?_
  exact gm_Wp_wk (Nat.le_refl _) (by omega) (by omega) (rest g _ _ _ _ L6 hb2 (by omega) ⟨_, _, _, _, _, _, _, hM2⟩ hL6)
theorem mc_39 (hb : bg g la K R M) (hg : g < 9990) (hM : RELW la K M) (hL : mn_L i L) (hi : 0 ≤ i ∧ i + 6 ≤ (LX : Int)) (hLX : LX ≤ 3072) (hX : ∀ j, gm_ir (X j)) (hbc : 12 ≤ bc) (hbs : 1200 ≤ bs) (rest : mn_R X LX bc bs i g Q) : gm_Wp X LX 280 bc bs 370 1783 L [] (245 + 4 * g) K R M Q := by
  obtain ⟨N, lw, A, im, t, w, f, hM⟩ := hM
  refine gm_sz (gm_p_load (pc := 1783) (i := .aload_n 1) (sr := 2) (j := 1) (by decide +kernel) rfl hL.2.2.1 rfl) ?_
  refine mn_arg (pc := 1784) (j := 1) (by decide +kernel) (by decide +kernel) (by decide +kernel) (by decide +kernel) (by decide +kernel) hL hi (by decide) hLX ?_
  refine mn_arg (pc := 1790) (j := 2) (by decide +kernel) (by decide +kernel) (by decide +kernel) (by decide +kernel) (by decide +kernel) hL hi (by decide) hLX ?_
  refine gm_sz (gm_p_load (pc := 1796) (i := .aload_n 3) (sr := 2) (j := 3) (by decide +kernel) rfl hL.2.2.2.2.1 rfl) ?_
  refine rq_x (pc := 1797) (ix := 278) (mj := 226) (xs := [X (i + 1), X (i + 2)]) (st := []) (ds := [(-2147483648, 2147483647), (-2147483648, 2147483647)]) (r := true) hb (by omega) hM (by decide +kernel) (by decide +kernel) (by decide +kernel) (by decide +kernel) (show 4 = gm_na 226 by decide +kernel) (show 4 ≤ gm_ml 226 by decide +kernel) (Nat.le_of_ble_eq_true rfl) ax_range_s al_range_s ax_range_c al_range_c ax_range_v al_range_v (bc_in1 (mn_w (hX _)) (bc_in1 (mn_w (hX _)) bc_in0)) (List.forall_mem_cons.mpr ⟨hX _, (List.forall_mem_cons.mpr ⟨hX _, (fun _ h => nomatch h)⟩)⟩) (by omega) (by omega) ?_
  intro u1 la1 K1 R1 M1 hu1 hb1 hM1
  obtain ⟨y1, rfl⟩ : ∃ y, u1 = some (gm_vi y) := hu1
  show gm_Wp X LX 280 _ _ 370 1800 L [gm_vi y1] (245 + 4 * g) K1 R1 M1 Q
  refine gm_sz (gm_p_stor (pc := 1800) (i := .istore 5) (sr := 0) (j := 5) (by decide +kernel) rfl (by show 5 + 0 < L.length; have := hL.1; omega) rfl) ?_
  have hL5 := mn_L_s (y := y1) hL (j := 5) (Or.inl rfl)
  have l55 := mn_l5 (y := y1) hL
  generalize gm_lst L 5 (gm_vi y1) = L5 at hL5 l55 ⊢
  refine gm_sz (gm_p_load (pc := 1802) (i := .aload_n 2) (sr := 2) (j := 2) (by decide +kernel) rfl hL5.2.2.2.1 rfl) ?_
  refine mn_arg (pc := 1803) (j := 1) (by decide +kernel) (by decide +kernel) (by decide +kernel) (by decide +kernel) (by decide +kernel) hL5 hi (by decide) hLX ?_
  refine mn_arg (pc := 1809) (j := 2) (by decide +kernel) (by decide +kernel) (by decide +kernel) (by decide +kernel) (by decide +kernel) hL5 hi (by decide) hLX ?_
  refine rq_m (pc := 1815) (ix := 280) (mj := 364) (xs := [X (i + 1), X (i + 2)]) (st := []) (ds := [(-2147483648, 2147483647), (-2147483648, 2147483647)]) (r := true) hb1 (by omega) hM1 (by decide +kernel) (by decide +kernel) (by decide +kernel) (by decide +kernel) (show 2 = gm_na 364 by decide +kernel) (show 3 ≤ gm_ml 364 by decide +kernel) (Nat.le_of_ble_eq_true rfl) am_range_s am_range_c am_range_v (bc_in1 (mn_w (hX _)) (bc_in1 (mn_w (hX _)) bc_in0)) (List.forall_mem_cons.mpr ⟨hX _, (List.forall_mem_cons.mpr ⟨hX _, (fun _ h => nomatch h)⟩)⟩) (by omega) (by omega) ?_
  intro u2 la2 K2 R2 M2 hu2 hb2 hM2
  obtain ⟨y2, rfl⟩ : ∃ y, u2 = some (gm_vi y) := hu2
  show gm_Wp X LX 280 _ _ 370 1818 L5 [gm_vi y2] (245 + 4 * g) K2 R2 M2 Q
  refine gm_sz (gm_p_stor (pc := 1818) (i := .istore 6) (sr := 0) (j := 6) (by decide +kernel) rfl (by show 6 + 0 < L5.length; have := hL5.1; omega) rfl) ?_
  have hL6 := mn_L_s (y := y2) hL5 (j := 6) (Or.inr rfl)
  have l66 := mn_l6 (y := y2) hL5
  have l65 := mn_l65 (y := y2) l55
  generalize gm_lst L5 6 (gm_vi y2) = L6 at hL6 l66 l65 ⊢
  refine gm_sz (gm_p_goto (pc := 1820) (off := 173) (by decide +kernel) (by decide)) ?_
  exact gm_Wp_wk (Nat.le_refl _) (by omega) (by omega) (rest g _ _ _ _ L6 hb2 (by omega) ⟨_, _, _, _, _, _, _, hM2⟩ hL6)
theorem mc_40 (hb : bg g la K R M) (hg : g < 9990) (hM : RELW la K M) (hL : mn_L i L) (hi : 0 ≤ i ∧ i + 6 ≤ (LX : Int)) (hLX : LX ≤ 3072) (hX : ∀ j, gm_ir (X j)) (hbc : 12 ≤ bc) (hbs : 1200 ≤ bs) (rest : mn_R X LX bc bs i g Q) : gm_Wp X LX 280 bc bs 370 1823 L [] (245 + 4 * g) K R M Q := by
  obtain ⟨N, lw, A, im, t, w, f, hM⟩ := hM
  refine gm_sz (gm_p_load (pc := 1823) (i := .aload_n 1) (sr := 2) (j := 1) (by decide +kernel) rfl hL.2.2.1 rfl) ?_
  refine mn_arg (pc := 1824) (j := 1) (by decide +kernel) (by decide +kernel) (by decide +kernel) (by decide +kernel) (by decide +kernel) hL hi (by decide) hLX ?_
  refine mn_arg (pc := 1830) (j := 2) (by decide +kernel) (by decide +kernel) (by decide +kernel) (by decide +kernel) (by decide +kernel) hL hi (by decide) hLX ?_
  refine gm_sz (gm_p_load (pc := 1836) (i := .aload_n 3) (sr := 2) (j := 3) (by decide +kernel) rfl hL.2.2.2.2.1 rfl) ?_
  refine rq_x (pc := 1837) (ix := 281) (mj := 228) (xs := [X (i + 1), X (i + 2)]) (st := []) (ds := [(-2147483648, 2147483647), (-2147483648, 2147483647)]) (r := true) hb (by omega) hM (by decide +kernel) (by decide +kernel) (by decide +kernel) (by decide +kernel) (show 4 = gm_na 228 by decide +kernel) (show 4 ≤ gm_ml 228 by decide +kernel) (Nat.le_of_ble_eq_true rfl) ax_swiftest_s al_swiftest_s ax_swiftest_c al_swiftest_c ax_swiftest_v al_swiftest_v (bc_in1 (mn_w (hX _)) (bc_in1 (mn_w (hX _)) bc_in0)) (List.forall_mem_cons.mpr ⟨hX _, (List.forall_mem_cons.mpr ⟨hX _, (fun _ h => nomatch h)⟩)⟩) (by omega) (by omega) ?_
  intro u1 la1 K1 R1 M1 hu1 hb1 hM1
  obtain ⟨y1, rfl⟩ : ∃ y, u1 = some (gm_vi y) := hu1
  show gm_Wp X LX 280 _ _ 370 1840 L [gm_vi y1] (245 + 4 * g) K1 R1 M1 Q
  refine gm_sz (gm_p_stor (pc := 1840) (i := .istore 5) (sr := 0) (j := 5) (by decide +kernel) rfl (by show 5 + 0 < L.length; have := hL.1; omega) rfl) ?_
  have hL5 := mn_L_s (y := y1) hL (j := 5) (Or.inl rfl)
  have l55 := mn_l5 (y := y1) hL
  generalize gm_lst L 5 (gm_vi y1) = L5 at hL5 l55 ⊢
  refine gm_sz (gm_p_load (pc := 1842) (i := .aload_n 2) (sr := 2) (j := 2) (by decide +kernel) rfl hL5.2.2.2.1 rfl) ?_
  refine mn_arg (pc := 1843) (j := 1) (by decide +kernel) (by decide +kernel) (by decide +kernel) (by decide +kernel) (by decide +kernel) hL5 hi (by decide) hLX ?_
  refine mn_arg (pc := 1849) (j := 2) (by decide +kernel) (by decide +kernel) (by decide +kernel) (by decide +kernel) (by decide +kernel) hL5 hi (by decide) hLX ?_
  refine rq_m (pc := 1855) (ix := 283) (mj := 365) (xs := [X (i + 1), X (i + 2)]) (st := []) (ds := [(-2147483648, 2147483647), (-2147483648, 2147483647)]) (r := true) hb1 (by omega) hM1 (by decide +kernel) (by decide +kernel) (by decide +kernel) (by decide +kernel) (show 2 = gm_na 365 by decide +kernel) (show 3 ≤ gm_ml 365 by decide +kernel) (Nat.le_of_ble_eq_true rfl) am_swiftest_s am_swiftest_c am_swiftest_v (bc_in1 (mn_w (hX _)) (bc_in1 (mn_w (hX _)) bc_in0)) (List.forall_mem_cons.mpr ⟨hX _, (List.forall_mem_cons.mpr ⟨hX _, (fun _ h => nomatch h)⟩)⟩) (by omega) (by omega) ?_
  intro u2 la2 K2 R2 M2 hu2 hb2 hM2
  obtain ⟨y2, rfl⟩ : ∃ y, u2 = some (gm_vi y) := hu2
  show gm_Wp X LX 280 _ _ 370 1858 L5 [gm_vi y2] (245 + 4 * g) K2 R2 M2 Q
  refine gm_sz (gm_p_stor (pc := 1858) (i := .istore 6) (sr := 0) (j := 6) (by decide +kernel) rfl (by show 6 + 0 < L5.length; have := hL5.1; omega) rfl) ?_
  have hL6 := mn_L_s (y := y2) hL5 (j := 6) (Or.inr rfl)
  have l66 := mn_l6 (y := y2) hL5
  have l65 := mn_l65 (y := y2) l55
  generalize gm_lst L5 6 (gm_vi y2) = L6 at hL6 l66 l65 ⊢
  refine gm_sz (gm_p_goto (pc := 1860) (off := 133) (by decide +kernel) (by decide)) ?_
  exact gm_Wp_wk (Nat.le_refl _) (by omega) (by omega) (rest g _ _ _ _ L6 hb2 (by omega) ⟨_, _, _, _, _, _, _, hM2⟩ hL6)
theorem mc_41 (hb : bg g la K R M) (hg : g < 9990) (hM : RELW la K M) (hL : mn_L i L) (hi : 0 ≤ i ∧ i + 6 ≤ (LX : Int)) (hLX : LX ≤ 3072) (hX : ∀ j, gm_ir (X j)) (hbc : 12 ≤ bc) (hbs : 1200 ≤ bs) (rest : mn_R X LX bc bs i g Q) : gm_Wp X LX 280 bc bs 370 1863 L [] (245 + 4 * g) K R M Q := by
  obtain ⟨N, lw, A, im, t, w, f, hM⟩ := hM
  refine gm_sz (gm_p_load (pc := 1863) (i := .aload_n 1) (sr := 2) (j := 1) (by decide +kernel) rfl hL.2.2.1 rfl) ?_
  refine mn_arg (pc := 1864) (j := 1) (by decide +kernel) (by decide +kernel) (by decide +kernel) (by decide +kernel) (by decide +kernel) hL hi (by decide) hLX ?_
  refine gm_sz (gm_p_load (pc := 1870) (i := .aload_n 3) (sr := 2) (j := 3) (by decide +kernel) rfl hL.2.2.2.2.1 rfl) ?_
  refine rq_x (pc := 1871) (ix := 284) (mj := 230) (xs := [X (i + 1)]) (st := []) (ds := [(-2147483648, 2147483647)]) (r := true) hb (by omega) hM (by decide +kernel) (by decide +kernel) (by decide +kernel) (by decide +kernel) (show 3 = gm_na 230 by decide +kernel) (show 3 ≤ gm_ml 230 by decide +kernel) (Nat.le_of_ble_eq_true rfl) ax_bare_s al_bare_s ax_bare_c al_bare_c ax_bare_v al_bare_v (bc_in1 (mn_w (hX _)) bc_in0) (List.forall_mem_cons.mpr ⟨hX _, (fun _ h => nomatch h)⟩) (by omega) (by omega) ?_
  intro u1 la1 K1 R1 M1 hu1 hb1 hM1
  obtain ⟨y1, rfl⟩ : ∃ y, u1 = some (gm_vi y) := hu1
  show gm_Wp X LX 280 _ _ 370 1874 L [gm_vi y1] (245 + 4 * g) K1 R1 M1 Q
  refine gm_sz (gm_p_stor (pc := 1874) (i := .istore 5) (sr := 0) (j := 5) (by decide +kernel) rfl (by show 5 + 0 < L.length; have := hL.1; omega) rfl) ?_
  have hL5 := mn_L_s (y := y1) hL (j := 5) (Or.inl rfl)
  have l55 := mn_l5 (y := y1) hL
  generalize gm_lst L 5 (gm_vi y1) = L5 at hL5 l55 ⊢
  refine gm_sz (gm_p_load (pc := 1876) (i := .aload_n 2) (sr := 2) (j := 2) (by decide +kernel) rfl hL5.2.2.2.1 rfl) ?_
  refine mn_arg (pc := 1877) (j := 1) (by decide +kernel) (by decide +kernel) (by decide +kernel) (by decide +kernel) (by decide +kernel) hL5 hi (by decide) hLX ?_
  refine rq_m (pc := 1883) (ix := 286) (mj := 366) (xs := [X (i + 1)]) (st := []) (ds := [(-2147483648, 2147483647)]) (r := true) hb1 (by omega) hM1 (by decide +kernel) (by decide +kernel) (by decide +kernel) (by decide +kernel) (show 1 = gm_na 366 by decide +kernel) (show 2 ≤ gm_ml 366 by decide +kernel) (Nat.le_of_ble_eq_true rfl) am_bare_s am_bare_c am_bare_v (bc_in1 (mn_w (hX _)) bc_in0) (List.forall_mem_cons.mpr ⟨hX _, (fun _ h => nomatch h)⟩) (by omega) (by omega) ?_
  intro u2 la2 K2 R2 M2 hu2 hb2 hM2
  obtain ⟨y2, rfl⟩ : ∃ y, u2 = some (gm_vi y) := hu2
  show gm_Wp X LX 280 _ _ 370 1886 L5 [gm_vi y2] (245 + 4 * g) K2 R2 M2 Q
  refine gm_sz (gm_p_stor (pc := 1886) (i := .istore 6) (sr := 0) (j := 6) (by decide +kernel) rfl (by show 6 + 0 < L5.length; have := hL5.1; omega) rfl) ?_
  have hL6 := mn_L_s (y := y2) hL5 (j := 6) (Or.inr rfl)
  have l66 := mn_l6 (y := y2) hL5
  have l65 := mn_l65 (y := y2) l55
  generalize gm_lst L5 6 (gm_vi y2) = L6 at hL6 l66 l65 ⊢
  refine gm_sz (gm_p_goto (pc := 1888) (off := 105) (by decide +kernel) (by decide)) ?_
  exact gm_Wp_wk (Nat.le_refl _) (by omega) (by omega) (rest g _ _ _ _ L6 hb2 (by omega) ⟨_, _, _, _, _, _, _, hM2⟩ hL6)
theorem mc_42 (hb : bg g la K R M) (hg : g < 9990) (hM : RELW la K M) (hL : mn_L i L) (hi : 0 ≤ i ∧ i + 6 ≤ (LX : Int)) (hLX : LX ≤ 3072) (hX : ∀ j, gm_ir (X j)) (hbc : 12 ≤ bc) (hbs : 1200 ≤ bs) (rest : mn_R X LX bc bs i g Q) : gm_Wp X LX 280 bc bs 370 1891 L [] (245 + 4 * g) K R M Q := by
  obtain ⟨N, lw, A, im, t, w, f, hM⟩ := hM
  refine gm_sz (gm_p_load (pc := 1891) (i := .aload_n 1) (sr := 2) (j := 1) (by decide +kernel) rfl hL.2.2.1 rfl) ?_
  refine mn_arg (pc := 1892) (j := 1) (by decide +kernel) (by decide +kernel) (by decide +kernel) (by decide +kernel) (by decide +kernel) hL hi (by decide) hLX ?_
  refine mn_arg (pc := 1898) (j := 2) (by decide +kernel) (by decide +kernel) (by decide +kernel) (by decide +kernel) (by decide +kernel) hL hi (by decide) hLX ?_
  refine gm_sz (gm_p_load (pc := 1904) (i := .aload_n 3) (sr := 2) (j := 3) (by decide +kernel) rfl hL.2.2.2.2.1 rfl) ?_
  refine rq_x (pc := 1905) (ix := 287) (mj := 232) (xs := [X (i + 1), X (i + 2)]) (st := []) (ds := [(-2147483648, 2147483647), (-2147483648, 2147483647)]) (r := true) hb (by omega) hM (by decide +kernel) (by decide +kernel) (by decide +kernel) (by decide +kernel) (show 4 = gm_na 232 by decide +kernel) (show 4 ≤ gm_ml 232 by decide +kernel) (Nat.le_of_ble_eq_true rfl) ax_log_s al_log_s ax_log_c al_log_c ax_log_v al_log_v (bc_in1 (mn_w (hX _)) (bc_in1 (mn_w (hX _)) bc_in0)) (List.forall_mem_cons.mpr ⟨hX _, (List.forall_mem_cons.mpr ⟨hX _, (fun _ h => nomatch h)⟩)⟩) (by omega) (by omega) ?_
  intro u1 la1 K1 R1 M1 hu1 hb1 hM1
  obtain ⟨y1, rfl⟩ : ∃ y, u1 = some (gm_vi y) := hu1
  show gm_Wp X LX 280 _ _ 370 1908 L [gm_vi y1] (245 + 4 * g) K1 R1 M1 Q
  refine gm_sz (gm_p_stor (pc := 1908) (i := .istore 5) (sr := 0) (j := 5) (by decide +kernel) rfl (by show 5 + 0 < L.length; have := hL.1; omega) rfl) ?_
  have hL5 := mn_L_s (y := y1) hL (j := 5) (Or.inl rfl)
  have l55 := mn_l5 (y := y1) hL
  generalize gm_lst L 5 (gm_vi y1) = L5 at hL5 l55 ⊢
  refine gm_sz (gm_p_load (pc := 1910) (i := .aload_n 2) (sr := 2) (j := 2) (by decide +kernel) rfl hL5.2.2.2.1 rfl) ?_
  refine mn_arg (pc := 1911) (j := 1) (by decide +kernel) (by decide +kernel) (by decide +kernel) (by decide +kernel) (by decide +kernel) hL5 hi (by decide) hLX ?_
  refine mn_arg (pc := 1917) (j := 2) (by decide +kernel) (by decide +kernel) (by decide +kernel) (by decide +kernel) (by decide +kernel) hL5 hi (by decide) hLX ?_
  refine rq_m (pc := 1923) (ix := 289) (mj := 367) (xs := [X (i + 1), X (i + 2)]) (st := []) (ds := [(-2147483648, 2147483647), (-2147483648, 2147483647)]) (r := true) hb1 (by omega) hM1 (by decide +kernel) (by decide +kernel) (by decide +kernel) (by decide +kernel) (show 2 = gm_na 367 by decide +kernel) (show 3 ≤ gm_ml 367 by decide +kernel) (Nat.le_of_ble_eq_true rfl) am_log_s am_log_c am_log_v (bc_in1 (mn_w (hX _)) (bc_in1 (mn_w (hX _)) bc_in0)) (List.forall_mem_cons.mpr ⟨hX _, (List.forall_mem_cons.mpr ⟨hX _, (fun _ h => nomatch h)⟩)⟩) (by omega) (by omega) ?_
  intro u2 la2 K2 R2 M2 hu2 hb2 hM2
  obtain ⟨y2, rfl⟩ : ∃ y, u2 = some (gm_vi y) := hu2
  show gm_Wp X LX 280 _ _ 370 1926 L5 [gm_vi y2] (245 + 4 * g) K2 R2 M2 Q
  refine gm_sz (gm_p_stor (pc := 1926) (i := .istore 6) (sr := 0) (j := 6) (by decide +kernel) rfl (by show 6 + 0 < L5.length; have := hL5.1; omega) rfl) ?_
  have hL6 := mn_L_s (y := y2) hL5 (j := 6) (Or.inr rfl)
  have l66 := mn_l6 (y := y2) hL5
  have l65 := mn_l65 (y := y2) l55
  generalize gm_lst L5 6 (gm_vi y2) = L6 at hL6 l66 l65 ⊢
  refine gm_sz (gm_p_goto (pc := 1928) (off := 65) (by decide +kernel) (by decide)) ?_
  exact gm_Wp_wk (Nat.le_refl _) (by omega) (by omega) (rest g _ _ _ _ L6 hb2 (by omega) ⟨_, _, _, _, _, _, _, hM2⟩ hL6)
theorem mc_43 (hb : bg g la K R M) (hg : g < 9990) (hM : RELW la K M) (hL : mn_L i L) (hi : 0 ≤ i ∧ i + 6 ≤ (LX : Int)) (hLX : LX ≤ 3072) (hX : ∀ j, gm_ir (X j)) (hbc : 12 ≤ bc) (hbs : 1200 ≤ bs) (rest : mn_R X LX bc bs i g Q) : gm_Wp X LX 280 bc bs 370 1931 L [] (245 + 4 * g) K R M Q := by
  obtain ⟨N, lw, A, im, t, w, f, hM⟩ := hM
  refine gm_sz (gm_p_load (pc := 1931) (i := .aload_n 1) (sr := 2) (j := 1) (by decide +kernel) rfl hL.2.2.1 rfl) ?_
  refine ow_undo (pc := 1932) (ix := 290) (st := []) hb (by omega) hM (by decide +kernel) (by decide +kernel) (Nat.le_of_ble_eq_true rfl) ax_undo_s al_undo_s ax_undo_c al_undo_c ax_undo_v al_undo_v bc_in0 (by omega) (by omega) ?_
  intro la1 K1 R1 M1 hb1 hM1 hv1
  show gm_Wp X LX 280 _ _ 370 1935 L [gm_vi ((ap_undo N A).1)] (245 + 4 * g) K1 R1 M1 Q
  refine gm_sz (gm_p_pop (pc := 1935) (by decide +kernel) (by simp [gm_sort])) ?_
  refine gm_sz (gm_p_load (pc := 1936) (i := .aload_n 2) (sr := 2) (j := 2) (by decide +kernel) rfl hL.2.2.2.1 rfl) ?_
  refine om_undo (pc := 1937) (ix := 294) (st := []) hb1 (by omega) hM1 (by decide +kernel) (by decide +kernel) (Nat.le_of_ble_eq_true rfl) am_undo_s am_undo_c am_undo_v bc_in0 (by omega) (by omega) ?_
  intro u2 la2 K2 R2 M2 hu2 hb2 hM2 h245 hth2
  have hu2 : u2 = some (gm_vi (ap_undo N A).1) := hu2
  subst hu2
  show gm_Wp X LX 280 _ _ 370 1940 L [gm_vi ((ap_undo N A).1)] (245 + 4 * g) K2 R2 M2 Q
  refine gm_sz (gm_p_pop (pc := 1940) (by decide +kernel) (by simp [gm_sort])) ?_
  refine gm_sz (gm_p_goto (pc := 1941) (off := 52) (by decide +kernel) (by decide)) ?_
  exact gm_Wp_wk (Nat.le_refl _) (by omega) (by omega) (rest g _ _ _ _ L hb2 (by omega) ⟨_, _, _, _, _, _, _, hM2⟩ hL)
theorem mc_44 (hb : bg g la K R M) (hg : g < 9990) (hM : RELW la K M) (hL : mn_L i L) (hi : 0 ≤ i ∧ i + 6 ≤ (LX : Int)) (hLX : LX ≤ 3072) (hX : ∀ j, gm_ir (X j)) (hbc : 12 ≤ bc) (hbs : 1200 ≤ bs) (rest : mn_R X LX bc bs i g Q) : gm_Wp X LX 280 bc bs 370 1944 L [] (245 + 4 * g) K R M Q := by
  obtain ⟨N, lw, A, im, t, w, f, hM⟩ := hM
  refine gm_sz (gm_p_load (pc := 1944) (i := .aload_n 1) (sr := 2) (j := 1) (by decide +kernel) rfl hL.2.2.1 rfl) ?_
  refine ow_image (pc := 1945) (ix := 295) (st := []) hb (by omega) hM (by decide +kernel) (by decide +kernel) (Nat.le_of_ble_eq_true rfl) ax_image_s al_image_s ax_image_c al_image_c ax_image_v al_image_v bc_in0 (by omega) (by omega) ?_
  intro la1 K1 R1 M1 hb1 hM1 hv1
  show gm_Wp X LX 280 _ _ 370 1948 L [] (245 + 4 * g) K1 R1 M1 Q
  refine gm_sz (gm_p_load (pc := 1948) (i := .aload_n 2) (sr := 2) (j := 2) (by decide +kernel) rfl hL.2.2.2.1 rfl) ?_
  refine om_image (pc := 1949) (ix := 298) (st := []) hb1 (by omega) hM1 (by decide +kernel) (by decide +kernel) (Nat.le_of_ble_eq_true rfl) am_image_s am_image_c am_image_v bc_in0 (by omega) (by omega) ?_
  intro u2 la2 K2 R2 M2 hu2 hb2 hM2 h245 hth2
  have hu2 : u2 = none := hu2
  subst hu2
  show gm_Wp X LX 280 _ _ 370 1952 L [] (245 + 4 * g) K2 R2 M2 Q
  refine gm_sz (gm_p_goto (pc := 1952) (off := 41) (by decide +kernel) (by decide)) ?_
  exact gm_Wp_wk (Nat.le_refl _) (by omega) (by omega) (rest g _ _ _ _ L hb2 (by omega) ⟨_, _, _, _, _, _, _, hM2⟩ hL)
theorem mc_45 (hb : bg g la K R M) (hg : g < 9990) (hM : RELW la K M) (hL : mn_L i L) (hi : 0 ≤ i ∧ i + 6 ≤ (LX : Int)) (hLX : LX ≤ 3072) (hX : ∀ j, gm_ir (X j)) (hbc : 12 ≤ bc) (hbs : 1200 ≤ bs) (rest : mn_R X LX bc bs i g Q) : gm_Wp X LX 280 bc bs 370 1955 L [] (245 + 4 * g) K R M Q := by
  obtain ⟨N, lw, A, im, t, w, f, hM⟩ := hM
  refine gm_sz (gm_p_load (pc := 1955) (i := .aload_n 1) (sr := 2) (j := 1) (by decide +kernel) rfl hL.2.2.1 rfl) ?_
  refine ow_back (pc := 1956) (ix := 299) (st := []) hb (by omega) hM (by decide +kernel) (by decide +kernel) (Nat.le_of_ble_eq_true rfl) ax_back_s al_back_s ax_back_c al_back_c ax_back_v al_back_v bc_in0 (by omega) (by omega) ?_
  intro la1 K1 R1 M1 hb1 hM1 hv1
  show gm_Wp X LX 280 _ _ 370 1959 L [gm_vi ((ap_back N lw A im).1)] (245 + 4 * g) K1 R1 M1 Q
  refine gm_sz (gm_p_pop (pc := 1959) (by decide +kernel) (by simp [gm_sort])) ?_
  refine gm_sz (gm_p_load (pc := 1960) (i := .aload_n 2) (sr := 2) (j := 2) (by decide +kernel) rfl hL.2.2.2.1 rfl) ?_
  refine om_back (pc := 1961) (ix := 302) (st := []) hb1 (by omega) hM1 (by decide +kernel) (by decide +kernel) (Nat.le_of_ble_eq_true rfl) am_back_s am_back_c am_back_v bc_in0 (by omega) (by omega) ?_
  intro u2 la2 K2 R2 M2 hu2 hb2 hM2 h245 hth2
  have hu2 : u2 = some (gm_vi (ap_back N lw A im).1) := hu2
  subst hu2
  show gm_Wp X LX 280 _ _ 370 1964 L [gm_vi ((ap_back N lw A im).1)] (245 + 4 * g) K2 R2 M2 Q
  refine gm_sz (gm_p_pop (pc := 1964) (by decide +kernel) (by simp [gm_sort])) ?_
  refine gm_sz (gm_p_goto (pc := 1965) (off := 28) (by decide +kernel) (by decide)) ?_
  exact gm_Wp_wk (Nat.le_refl _) (by omega) (by omega) (rest g _ _ _ _ L hb2 (by omega) ⟨_, _, _, _, _, _, _, hM2⟩ hL)
theorem mc_46 (hb : bg g la K R M) (hg : g < 9990) (hM : RELW la K M) (hL : mn_L i L) (hi : 0 ≤ i ∧ i + 6 ≤ (LX : Int)) (hLX : LX ≤ 3072) (hX : ∀ j, gm_ir (X j)) (hbc : 12 ≤ bc) (hbs : 1200 ≤ bs) (rest : mn_R X LX bc bs i g Q) : gm_Wp X LX 280 bc bs 370 1968 L [] (245 + 4 * g) K R M Q := by
  obtain ⟨N, lw, A, im, t, w, f, hM⟩ := hM
  refine gm_sz (gm_p_load (pc := 1968) (i := .aload_n 1) (sr := 2) (j := 1) (by decide +kernel) rfl hL.2.2.1 rfl) ?_
  refine mn_arg (pc := 1969) (j := 1) (by decide +kernel) (by decide +kernel) (by decide +kernel) (by decide +kernel) (by decide +kernel) hL hi (by decide) hLX ?_
  refine rq_d (pc := 1975) (ix := 303) (mj := 63) (xs := [X (i + 1)]) (st := []) (ds := [(-2147483648, 2147483647)]) (r := true) hb (by omega) hM (by decide +kernel) (by decide +kernel) (by decide +kernel) (by decide +kernel) (show 1 = gm_na 63 by decide +kernel) (show 2 ≤ gm_ml 63 by decide +kernel) (Nat.le_of_ble_eq_true rfl) ax_count_s al_count_s ax_count_c al_count_c ax_count_v al_count_v (bc_in1 (mn_w (hX _)) bc_in0) (List.forall_mem_cons.mpr ⟨hX _, (fun _ h => nomatch h)⟩) (by omega) (by omega) ?_
  intro u1 la1 K1 R1 M1 hu1 hb1 hM1
  obtain ⟨y1, rfl⟩ : ∃ y, u1 = some (gm_vi y) := hu1
  show gm_Wp X LX 280 _ _ 370 1978 L [gm_vi y1] (245 + 4 * g) K1 R1 M1 Q
  refine gm_sz (gm_p_pop (pc := 1978) (by decide +kernel) (by simp [gm_sort])) ?_
  refine gm_sz (gm_p_load (pc := 1979) (i := .aload_n 2) (sr := 2) (j := 2) (by decide +kernel) rfl hL.2.2.2.1 rfl) ?_
  refine mn_arg (pc := 1980) (j := 1) (by decide +kernel) (by decide +kernel) (by decide +kernel) (by decide +kernel) (by decide +kernel) hL hi (by decide) hLX ?_
  refine rq_m (pc := 1986) (ix := 306) (mj := 368) (xs := [X (i + 1)]) (st := []) (ds := [(-2147483648, 2147483647)]) (r := true) hb1 (by omega) hM1 (by decide +kernel) (by decide +kernel) (by decide +kernel) (by decide +kernel) (show 1 = gm_na 368 by decide +kernel) (show 2 ≤ gm_ml 368 by decide +kernel) (Nat.le_of_ble_eq_true rfl) am_count_s am_count_c am_count_v (bc_in1 (mn_w (hX _)) bc_in0) (List.forall_mem_cons.mpr ⟨hX _, (fun _ h => nomatch h)⟩) (by omega) (by omega) ?_
  intro u2 la2 K2 R2 M2 hu2 hb2 hM2
  obtain ⟨y2, rfl⟩ : ∃ y, u2 = some (gm_vi y) := hu2
  show gm_Wp X LX 280 _ _ 370 1989 L [gm_vi y2] (245 + 4 * g) K2 R2 M2 Q
  refine gm_sz (gm_p_pop (pc := 1989) (by decide +kernel) (by simp [gm_sort])) ?_
  refine gm_sz (gm_p_goto (pc := 1990) (off := 3) (by decide +kernel) (by decide)) ?_
  exact gm_Wp_wk (Nat.le_refl _) (by omega) (by omega) (rest g _ _ _ _ L hb2 (by omega) ⟨_, _, _, _, _, _, _, hM2⟩ hL)
end MCC
end
