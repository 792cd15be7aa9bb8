/-! THE LAW'S CALLS: their rows, by name (laid by wip/pp/gen99v.py). -/
def hx_feed : List ck_Sum := [p2_s5]
theorem hx_feed_s {X : Int → Int} {LX : Nat} : ∀ S ∈ hx_feed, ck_Ok p2_O X LX 19 S := ck_S1 p2_s5_s ck_S0
theorem hx_feed_c : hx_feed.all (bc_chk p2_O 0 0 1 false true 0 1 6 226 5) = true := by decide +kernel
theorem hx_feed_v : bc_cov 60 [(-2147483648, 2147483647), (-2147483648, 2147483647), (-2147483648, 2147483647), (-2147483648, 2147483647), (-2147483648, 2147483647)] (hx_feed.map bc_box) = true := by decide +kernel
def hl_feed : List ck_Sum := [pl_s5]
theorem hl_feed_s {X : Int → Int} {LX : Nat} : ∀ S ∈ hl_feed, ck_Ok p2_OL X LX 19 S := ck_S1 pl_s5_s ck_S0
theorem hl_feed_c : hl_feed.all (bc_chk p2_OL 246 1 1 false true 0 1 6 226 5) = true := by decide +kernel
theorem hl_feed_v : bc_cov 60 [(-2147483648, 2147483647), (-2147483648, 2147483647), (-2147483648, 2147483647), (-2147483648, 2147483647), (-2147483648, 2147483647)] (hl_feed.map bc_box) = true := by decide +kernel
def hm_feed : List ck_Sum := [p2_s6]
theorem hm_feed_s {X : Int → Int} {LX : Nat} : ∀ S ∈ hm_feed, ck_Ok p2_O X LX 239 S := ck_S1 p2_s6_s ck_S0
theorem hm_feed_c : hm_feed.all (bc_chk p2_O 100003 0 226 false true 0 226 5 1 6) = true := by decide +kernel
theorem hm_feed_v : bc_cov 60 [(-2147483648, 2147483647), (-2147483648, 2147483647), (-2147483648, 2147483647), (-2147483648, 2147483647), (-2147483648, 2147483647)] (hm_feed.map bc_box) = true := by decide +kernel
def hx_end : List ck_Sum := [p2_s7]
theorem hx_end_s {X : Int → Int} {LX : Nat} : ∀ S ∈ hx_end, ck_Ok p2_O X LX 21 S := ck_S1 p2_s7_s ck_S0
theorem hx_end_c : hx_end.all (bc_chk p2_O 0 0 1 false true 0 1 6 226 5) = true := by decide +kernel
theorem hx_end_v : bc_cov 60 [(-2147483648, 2147483647)] (hx_end.map bc_box) = true := by decide +kernel
def hl_end : List ck_Sum := [pl_s6]
theorem hl_end_s {X : Int → Int} {LX : Nat} : ∀ S ∈ hl_end, ck_Ok p2_OL X LX 21 S := ck_S1 pl_s6_s ck_S0
theorem hl_end_c : hl_end.all (bc_chk p2_OL 246 1 1 false true 0 1 6 226 5) = true := by decide +kernel
theorem hl_end_v : bc_cov 60 [(-2147483648, 2147483647)] (hl_end.map bc_box) = true := by decide +kernel
def hm_end : List ck_Sum := [p2_s8]
theorem hm_end_s {X : Int → Int} {LX : Nat} : ∀ S ∈ hm_end, ck_Ok p2_O X LX 240 S := ck_S1 p2_s8_s ck_S0
theorem hm_end_c : hm_end.all (bc_chk p2_O 100003 0 226 false true 0 226 5 1 6) = true := by decide +kernel
theorem hm_end_v : bc_cov 60 [(-2147483648, 2147483647)] (hm_end.map bc_box) = true := by decide +kernel
def hx_valley : List ck_Sum := [p2_h0]
theorem hx_valley_s {X : Int → Int} {LX : Nat} : ∀ S ∈ hx_valley, ck_Ok p2_O X LX 70 S := ck_S1 p2_h0_s ck_S0
theorem hx_valley_c : hx_valley.all (bc_chk p2_O 0 0 1 true true 0 1 6 226 5) = true := by decide +kernel
theorem hx_valley_v : bc_cov 60 [] (hx_valley.map bc_box) = true := by decide +kernel
def hl_valley : List ck_Sum := [pl_h0]
theorem hl_valley_s {X : Int → Int} {LX : Nat} : ∀ S ∈ hl_valley, ck_Ok p2_OL X LX 70 S := ck_S1 pl_h0_s ck_S0
theorem hl_valley_c : hl_valley.all (bc_chk p2_OL 246 1 1 true true 0 1 6 226 5) = true := by decide +kernel
theorem hl_valley_v : bc_cov 60 [] (hl_valley.map bc_box) = true := by decide +kernel
def hm_valley : List ck_Sum := [p2_s246]
theorem hm_valley_s {X : Int → Int} {LX : Nat} : ∀ S ∈ hm_valley, ck_Ok p2_O X LX 242 S := ck_S1 p2_s246_s ck_S0
theorem hm_valley_c : hm_valley.all (bc_chk p2_O 100003 0 226 false true 0 226 5 1 6) = true := by decide +kernel
theorem hm_valley_v : bc_cov 60 [] (hm_valley.map bc_box) = true := by decide +kernel
def hx_fault : List ck_Sum := [p2_s247]
theorem hx_fault_s {X : Int → Int} {LX : Nat} : ∀ S ∈ hx_fault, ck_Ok p2_O X LX 22 S := ck_S1 p2_s247_s ck_S0
theorem hx_fault_c : hx_fault.all (bc_chk p2_O 0 0 1 false true 0 1 6 226 5) = true := by decide +kernel
theorem hx_fault_v : bc_cov 60 [] (hx_fault.map bc_box) = true := by decide +kernel
def hl_fault : List ck_Sum := [pl_s144]
theorem hl_fault_s {X : Int → Int} {LX : Nat} : ∀ S ∈ hl_fault, ck_Ok p2_OL X LX 22 S := ck_S1 pl_s144_s ck_S0
theorem hl_fault_c : hl_fault.all (bc_chk p2_OL 246 1 1 false true 0 1 6 226 5) = true := by decide +kernel
theorem hl_fault_v : bc_cov 60 [] (hl_fault.map bc_box) = true := by decide +kernel
def hm_fault : List ck_Sum := [p2_s248]
theorem hm_fault_s {X : Int → Int} {LX : Nat} : ∀ S ∈ hm_fault, ck_Ok p2_O X LX 241 S := ck_S1 p2_s248_s ck_S0
theorem hm_fault_c : hm_fault.all (bc_chk p2_O 100003 0 226 false true 0 226 5 1 6) = true := by decide +kernel
theorem hm_fault_v : bc_cov 60 [] (hm_fault.map bc_box) = true := by decide +kernel
def hx_heat : List ck_Sum := [p2_h1, p2_h2, p2_h3]
theorem hx_heat_s {X : Int → Int} {LX : Nat} : ∀ S ∈ hx_heat, ck_Ok p2_O X LX 127 S := ck_S1 p2_h1_s (ck_S1 p2_h2_s (ck_S1 p2_h3_s ck_S0))
theorem hx_heat_c : hx_heat.all (bc_chk p2_O 0 0 1 true true 0 1 6 226 5) = true := by decide +kernel
theorem hx_heat_v : bc_cov 60 [(-2147483648, 2147483647)] (hx_heat.map bc_box) = true := by decide +kernel
def hl_heat : List ck_Sum := [pl_h1, pl_h2, pl_h3]
theorem hl_heat_s {X : Int → Int} {LX : Nat} : ∀ S ∈ hl_heat, ck_Ok p2_OL X LX 127 S := ck_S1 pl_h1_s (ck_S1 pl_h2_s (ck_S1 pl_h3_s ck_S0))
theorem hl_heat_c : hl_heat.all (bc_chk p2_OL 246 1 1 true true 0 1 6 226 5) = true := by decide +kernel
theorem hl_heat_v : bc_cov 60 [(-2147483648, 2147483647)] (hl_heat.map bc_box) = true := by decide +kernel
def hm_heat : List ck_Sum := [p2_s258, p2_s261, p2_s264]
theorem hm_heat_s {X : Int → Int} {LX : Nat} : ∀ S ∈ hm_heat, ck_Ok p2_O X LX 284 S := ck_S1 p2_s258_s (ck_S1 p2_s261_s (ck_S1 p2_s264_s ck_S0))
theorem hm_heat_c : hm_heat.all (bc_chk p2_O 100003 0 226 false true 0 226 5 1 6) = true := by decide +kernel
theorem hm_heat_v : bc_cov 60 [(-2147483648, 2147483647)] (hm_heat.map bc_box) = true := by decide +kernel
def hx_speed : List ck_Sum := [p2_h4, p2_h5, p2_h6, p2_h7, p2_h8]
theorem hx_speed_s {X : Int → Int} {LX : Nat} : ∀ S ∈ hx_speed, ck_Ok p2_O X LX 130 S := ck_S1 p2_h4_s (ck_S1 p2_h5_s (ck_S1 p2_h6_s (ck_S1 p2_h7_s (ck_S1 p2_h8_s ck_S0))))
theorem hx_speed_c : hx_speed.all (bc_chk p2_O 0 0 1 true true 0 1 6 226 5) = true := by decide +kernel
theorem hx_speed_v : bc_cov 60 [(-2147483648, 2147483647), (-2147483648, 2147483647)] (hx_speed.map bc_box) = true := by decide +kernel
def hl_speed : List ck_Sum := [pl_h4, pl_h5, pl_h6, pl_h7, pl_h8]
theorem hl_speed_s {X : Int → Int} {LX : Nat} : ∀ S ∈ hl_speed, ck_Ok p2_OL X LX 130 S := ck_S1 pl_h4_s (ck_S1 pl_h5_s (ck_S1 pl_h6_s (ck_S1 pl_h7_s (ck_S1 pl_h8_s ck_S0))))
theorem hl_speed_c : hl_speed.all (bc_chk p2_OL 246 1 1 true true 0 1 6 226 5) = true := by decide +kernel
theorem hl_speed_v : bc_cov 60 [(-2147483648, 2147483647), (-2147483648, 2147483647)] (hl_speed.map bc_box) = true := by decide +kernel
def hm_speed : List ck_Sum := [p2_s285, p2_s288, p2_s293, p2_s296, p2_s300]
theorem hm_speed_s {X : Int → Int} {LX : Nat} : ∀ S ∈ hm_speed, ck_Ok p2_O X LX 287 S := ck_S1 p2_s285_s (ck_S1 p2_s288_s (ck_S1 p2_s293_s (ck_S1 p2_s296_s (ck_S1 p2_s300_s ck_S0))))
theorem hm_speed_c : hm_speed.all (bc_chk p2_O 100003 0 226 false true 0 226 5 1 6) = true := by decide +kernel
theorem hm_speed_v : bc_cov 60 [(-2147483648, 2147483647), (-2147483648, 2147483647)] (hm_speed.map bc_box) = true := by decide +kernel
def hx_flow : List ck_Sum := [p2_h9, p2_h10, p2_h11, p2_h12, p2_h13, p2_h14, p2_h15]
theorem hx_flow_s {X : Int → Int} {LX : Nat} : ∀ S ∈ hx_flow, ck_Ok p2_O X LX 135 S := ck_S1 p2_h9_s (ck_S1 p2_h10_s (ck_S1 p2_h11_s (ck_S1 p2_h12_s (ck_S1 p2_h13_s (ck_S1 p2_h14_s (ck_S1 p2_h15_s ck_S0))))))
theorem hx_flow_c : hx_flow.all (bc_chk p2_O 0 0 1 true true 0 1 6 226 5) = true := by decide +kernel
theorem hx_flow_v : bc_cov 60 [(-2147483648, 2147483647), (-2147483648, 2147483647), (-2147483648, 2147483647)] (hx_flow.map bc_box) = true := by decide +kernel
def hl_flow : List ck_Sum := [pl_h9, pl_h10, pl_h11, pl_h12, pl_h13, pl_h14, pl_h15]
theorem hl_flow_s {X : Int → Int} {LX : Nat} : ∀ S ∈ hl_flow, ck_Ok p2_OL X LX 135 S := ck_S1 pl_h9_s (ck_S1 pl_h10_s (ck_S1 pl_h11_s (ck_S1 pl_h12_s (ck_S1 pl_h13_s (ck_S1 pl_h14_s (ck_S1 pl_h15_s ck_S0))))))
theorem hl_flow_c : hl_flow.all (bc_chk p2_OL 246 1 1 true true 0 1 6 226 5) = true := by decide +kernel
theorem hl_flow_v : bc_cov 60 [(-2147483648, 2147483647), (-2147483648, 2147483647), (-2147483648, 2147483647)] (hl_flow.map bc_box) = true := by decide +kernel
def hm_flow : List ck_Sum := [p2_s310, p2_s311, p2_s312, p2_s313, p2_s314, p2_s315, p2_s319]
theorem hm_flow_s {X : Int → Int} {LX : Nat} : ∀ S ∈ hm_flow, ck_Ok p2_O X LX 291 S := ck_S1 p2_s310_s (ck_S1 p2_s311_s (ck_S1 p2_s312_s (ck_S1 p2_s313_s (ck_S1 p2_s314_s (ck_S1 p2_s315_s (ck_S1 p2_s319_s ck_S0))))))
theorem hm_flow_c : hm_flow.all (bc_chk p2_O 100003 0 226 false true 0 226 5 1 6) = true := by decide +kernel
theorem hm_flow_v : bc_cov 60 [(-2147483648, 2147483647), (-2147483648, 2147483647), (-2147483648, 2147483647)] (hm_flow.map bc_box) = true := by decide +kernel
def hx_person : List ck_Sum := [p2_h16, p2_h17, p2_h18, p2_h19, p2_h20]
theorem hx_person_s {X : Int → Int} {LX : Nat} : ∀ S ∈ hx_person, ck_Ok p2_O X LX 137 S := ck_S1 p2_h16_s (ck_S1 p2_h17_s (ck_S1 p2_h18_s (ck_S1 p2_h19_s (ck_S1 p2_h20_s ck_S0))))
theorem hx_person_c : hx_person.all (bc_chk p2_O 0 0 1 true true 0 1 6 226 5) = true := by decide +kernel
theorem hx_person_v : bc_cov 60 [(-2147483648, 2147483647), (-2147483648, 2147483647)] (hx_person.map bc_box) = true := by decide +kernel
def hl_person : List ck_Sum := [pl_h16, pl_h17, pl_h18, pl_h19, pl_h20]
theorem hl_person_s {X : Int → Int} {LX : Nat} : ∀ S ∈ hl_person, ck_Ok p2_OL X LX 137 S := ck_S1 pl_h16_s (ck_S1 pl_h17_s (ck_S1 pl_h18_s (ck_S1 pl_h19_s (ck_S1 pl_h20_s ck_S0))))
theorem hl_person_c : hl_person.all (bc_chk p2_OL 246 1 1 true true 0 1 6 226 5) = true := by decide +kernel
theorem hl_person_v : bc_cov 60 [(-2147483648, 2147483647), (-2147483648, 2147483647)] (hl_person.map bc_box) = true := by decide +kernel
def hm_person : List ck_Sum := [p2_s360, p2_s363, p2_s367, p2_s369, p2_s385]
theorem hm_person_s {X : Int → Int} {LX : Nat} : ∀ S ∈ hm_person, ck_Ok p2_O X LX 297 S := ck_S1 p2_s360_s (ck_S1 p2_s363_s (ck_S1 p2_s367_s (ck_S1 p2_s369_s (ck_S1 p2_s385_s ck_S0))))
theorem hm_person_c : hm_person.all (bc_chk p2_O 100003 0 226 false true 0 226 5 1 6) = true := by decide +kernel
theorem hm_person_v : bc_cov 60 [(-2147483648, 2147483647), (-2147483648, 2147483647)] (hm_person.map bc_box) = true := by decide +kernel
def hx_letter : List ck_Sum := [p2_h21, p2_h22, p2_h23, p2_h24, p2_h25]
theorem hx_letter_s {X : Int → Int} {LX : Nat} : ∀ S ∈ hx_letter, ck_Ok p2_O X LX 141 S := ck_S1 p2_h21_s (ck_S1 p2_h22_s (ck_S1 p2_h23_s (ck_S1 p2_h24_s (ck_S1 p2_h25_s ck_S0))))
theorem hx_letter_c : hx_letter.all (bc_chk p2_O 0 0 1 true true 0 1 6 226 5) = true := by decide +kernel
theorem hx_letter_v : bc_cov 60 [(-2147483648, 2147483647), (-2147483648, 2147483647)] (hx_letter.map bc_box) = true := by decide +kernel
def hl_letter : List ck_Sum := [pl_h21, pl_h22, pl_h23, pl_h24, pl_h25]
theorem hl_letter_s {X : Int → Int} {LX : Nat} : ∀ S ∈ hl_letter, ck_Ok p2_OL X LX 141 S := ck_S1 pl_h21_s (ck_S1 pl_h22_s (ck_S1 pl_h23_s (ck_S1 pl_h24_s (ck_S1 pl_h25_s ck_S0))))
theorem hl_letter_c : hl_letter.all (bc_chk p2_OL 246 1 1 true true 0 1 6 226 5) = true := by decide +kernel
theorem hl_letter_v : bc_cov 60 [(-2147483648, 2147483647), (-2147483648, 2147483647)] (hl_letter.map bc_box) = true := by decide +kernel
def hm_letter : List ck_Sum := [p2_s401, p2_s404, p2_s408, p2_s410, p2_s416]
theorem hm_letter_s {X : Int → Int} {LX : Nat} : ∀ S ∈ hm_letter, ck_Ok p2_O X LX 308 S := ck_S1 p2_s401_s (ck_S1 p2_s404_s (ck_S1 p2_s408_s (ck_S1 p2_s410_s (ck_S1 p2_s416_s ck_S0))))
theorem hm_letter_c : hm_letter.all (bc_chk p2_O 100003 0 226 false true 0 226 5 1 6) = true := by decide +kernel
theorem hm_letter_v : bc_cov 60 [(-2147483648, 2147483647), (-2147483648, 2147483647)] (hm_letter.map bc_box) = true := by decide +kernel
def hx_where : List ck_Sum := [p2_h26, p2_h27, p2_h28, p2_h29, p2_h30]
theorem hx_where_s {X : Int → Int} {LX : Nat} : ∀ S ∈ hx_where, ck_Ok p2_O X LX 146 S := ck_S1 p2_h26_s (ck_S1 p2_h27_s (ck_S1 p2_h28_s (ck_S1 p2_h29_s (ck_S1 p2_h30_s ck_S0))))
theorem hx_where_c : hx_where.all (bc_chk p2_O 0 0 1 true true 0 1 6 226 5) = true := by decide +kernel
theorem hx_where_v : bc_cov 60 [(-2147483648, 2147483647), (-2147483648, 2147483647)] (hx_where.map bc_box) = true := by decide +kernel
def hl_where : List ck_Sum := [pl_h26, pl_h27, pl_h28, pl_h29, pl_h30]
theorem hl_where_s {X : Int → Int} {LX : Nat} : ∀ S ∈ hl_where, ck_Ok p2_OL X LX 146 S := ck_S1 pl_h26_s (ck_S1 pl_h27_s (ck_S1 pl_h28_s (ck_S1 pl_h29_s (ck_S1 pl_h30_s ck_S0))))
theorem hl_where_c : hl_where.all (bc_chk p2_OL 246 1 1 true true 0 1 6 226 5) = true := by decide +kernel
theorem hl_where_v : bc_cov 60 [(-2147483648, 2147483647), (-2147483648, 2147483647)] (hl_where.map bc_box) = true := by decide +kernel
def hm_where : List ck_Sum := [p2_s423, p2_s424, p2_s425, p2_s426, p2_s427]
theorem hm_where_s {X : Int → Int} {LX : Nat} : ∀ S ∈ hm_where, ck_Ok p2_O X LX 313 S := ck_S1 p2_s423_s (ck_S1 p2_s424_s (ck_S1 p2_s425_s (ck_S1 p2_s426_s (ck_S1 p2_s427_s ck_S0))))
theorem hm_where_c : hm_where.all (bc_chk p2_O 100003 0 226 false true 0 226 5 1 6) = true := by decide +kernel
theorem hm_where_v : bc_cov 60 [(-2147483648, 2147483647), (-2147483648, 2147483647)] (hm_where.map bc_box) = true := by decide +kernel
def hx_deep : List ck_Sum := [p2_h31, p2_h32, p2_h33, p2_h34, p2_h35]
theorem hx_deep_s {X : Int → Int} {LX : Nat} : ∀ S ∈ hx_deep, ck_Ok p2_O X LX 149 S := ck_S1 p2_h31_s (ck_S1 p2_h32_s (ck_S1 p2_h33_s (ck_S1 p2_h34_s (ck_S1 p2_h35_s ck_S0))))
theorem hx_deep_c : hx_deep.all (bc_chk p2_O 0 0 1 true true 0 1 6 226 5) = true := by decide +kernel
theorem hx_deep_v : bc_cov 60 [(-2147483648, 2147483647), (-2147483648, 2147483647)] (hx_deep.map bc_box) = true := by decide +kernel
def hl_deep : List ck_Sum := [pl_h31, pl_h32, pl_h33, pl_h34, pl_h35]
theorem hl_deep_s {X : Int → Int} {LX : Nat} : ∀ S ∈ hl_deep, ck_Ok p2_OL X LX 149 S := ck_S1 pl_h31_s (ck_S1 pl_h32_s (ck_S1 pl_h33_s (ck_S1 pl_h34_s (ck_S1 pl_h35_s ck_S0))))
theorem hl_deep_c : hl_deep.all (bc_chk p2_OL 246 1 1 true true 0 1 6 226 5) = true := by decide +kernel
theorem hl_deep_v : bc_cov 60 [(-2147483648, 2147483647), (-2147483648, 2147483647)] (hl_deep.map bc_box) = true := by decide +kernel
def hm_deep : List ck_Sum := [p2_s433, p2_s434, p2_s435, p2_s436, p2_s437]
theorem hm_deep_s {X : Int → Int} {LX : Nat} : ∀ S ∈ hm_deep, ck_Ok p2_O X LX 314 S := ck_S1 p2_s433_s (ck_S1 p2_s434_s (ck_S1 p2_s435_s (ck_S1 p2_s436_s (ck_S1 p2_s437_s ck_S0))))
theorem hm_deep_c : hm_deep.all (bc_chk p2_O 100003 0 226 false true 0 226 5 1 6) = true := by decide +kernel
theorem hm_deep_v : bc_cov 60 [(-2147483648, 2147483647), (-2147483648, 2147483647)] (hm_deep.map bc_box) = true := by decide +kernel
def hx_post : List ck_Sum := [p2_h36, p2_h37, p2_h38, p2_h39, p2_h40]
theorem hx_post_s {X : Int → Int} {LX : Nat} : ∀ S ∈ hx_post, ck_Ok p2_O X LX 151 S := ck_S1 p2_h36_s (ck_S1 p2_h37_s (ck_S1 p2_h38_s (ck_S1 p2_h39_s (ck_S1 p2_h40_s ck_S0))))
theorem hx_post_c : hx_post.all (bc_chk p2_O 0 0 1 true true 0 1 6 226 5) = true := by decide +kernel
theorem hx_post_v : bc_cov 60 [(-2147483648, 2147483647), (-2147483648, 2147483647)] (hx_post.map bc_box) = true := by decide +kernel
def hl_post : List ck_Sum := [pl_h36, pl_h37, pl_h38, pl_h39, pl_h40]
theorem hl_post_s {X : Int → Int} {LX : Nat} : ∀ S ∈ hl_post, ck_Ok p2_OL X LX 151 S := ck_S1 pl_h36_s (ck_S1 pl_h37_s (ck_S1 pl_h38_s (ck_S1 pl_h39_s (ck_S1 pl_h40_s ck_S0))))
theorem hl_post_c : hl_post.all (bc_chk p2_OL 246 1 1 true true 0 1 6 226 5) = true := by decide +kernel
theorem hl_post_v : bc_cov 60 [(-2147483648, 2147483647), (-2147483648, 2147483647)] (hl_post.map bc_box) = true := by decide +kernel
def hm_post : List ck_Sum := [p2_s547, p2_s548, p2_s549, p2_s550, p2_s557]
theorem hm_post_s {X : Int → Int} {LX : Nat} : ∀ S ∈ hm_post, ck_Ok p2_O X LX 315 S := ck_S1 p2_s547_s (ck_S1 p2_s548_s (ck_S1 p2_s549_s (ck_S1 p2_s550_s (ck_S1 p2_s557_s ck_S0))))
theorem hm_post_c : hm_post.all (bc_chk p2_O 100003 0 226 false true 0 226 5 1 6) = true := by decide +kernel
theorem hm_post_v : bc_cov 60 [(-2147483648, 2147483647), (-2147483648, 2147483647)] (hm_post.map bc_box) = true := by decide +kernel
def hx_watch : List ck_Sum := [p2_h41, p2_h42, p2_h43, p2_h44, p2_h45]
theorem hx_watch_s {X : Int → Int} {LX : Nat} : ∀ S ∈ hx_watch, ck_Ok p2_O X LX 155 S := ck_S1 p2_h41_s (ck_S1 p2_h42_s (ck_S1 p2_h43_s (ck_S1 p2_h44_s (ck_S1 p2_h45_s ck_S0))))
theorem hx_watch_c : hx_watch.all (bc_chk p2_O 0 0 1 true true 0 1 6 226 5) = true := by decide +kernel
theorem hx_watch_v : bc_cov 60 [(-2147483648, 2147483647), (-2147483648, 2147483647)] (hx_watch.map bc_box) = true := by decide +kernel
def hl_watch : List ck_Sum := [pl_h41, pl_h42, pl_h43, pl_h44, pl_h45]
theorem hl_watch_s {X : Int → Int} {LX : Nat} : ∀ S ∈ hl_watch, ck_Ok p2_OL X LX 155 S := ck_S1 pl_h41_s (ck_S1 pl_h42_s (ck_S1 pl_h43_s (ck_S1 pl_h44_s (ck_S1 pl_h45_s ck_S0))))
theorem hl_watch_c : hl_watch.all (bc_chk p2_OL 246 1 1 true true 0 1 6 226 5) = true := by decide +kernel
theorem hl_watch_v : bc_cov 60 [(-2147483648, 2147483647), (-2147483648, 2147483647)] (hl_watch.map bc_box) = true := by decide +kernel
def hm_watch : List ck_Sum := [p2_s567, p2_s568, p2_s572, p2_s573, p2_s574]
theorem hm_watch_s {X : Int → Int} {LX : Nat} : ∀ S ∈ hm_watch, ck_Ok p2_O X LX 317 S := ck_S1 p2_s567_s (ck_S1 p2_s568_s (ck_S1 p2_s572_s (ck_S1 p2_s573_s (ck_S1 p2_s574_s ck_S0))))
theorem hm_watch_c : hm_watch.all (bc_chk p2_O 100003 0 226 false true 0 226 5 1 6) = true := by decide +kernel
theorem hm_watch_v : bc_cov 60 [(-2147483648, 2147483647), (-2147483648, 2147483647)] (hm_watch.map bc_box) = true := by decide +kernel
def hx_open : List ck_Sum := [p2_h46, p2_h47, p2_h48, p2_h49, p2_h50, p2_h51, p2_h52, p2_h53, p2_h54, p2_h55, p2_h56, p2_h57, p2_h58, p2_h59, p2_h60, p2_h61, p2_h62, p2_h63, p2_h64, p2_h65, p2_h66, p2_h67, p2_h68, p2_h69, p2_h70, p2_h71]
theorem hx_open_s {X : Int → Int} {LX : Nat} : ∀ S ∈ hx_open, ck_Ok p2_O X LX 157 S := ck_S1 p2_h46_s (ck_S1 p2_h47_s (ck_S1 p2_h48_s (ck_S1 p2_h49_s (ck_S1 p2_h50_s (ck_S1 p2_h51_s (ck_S1 p2_h52_s (ck_S1 p2_h53_s (ck_S1 p2_h54_s (ck_S1 p2_h55_s (ck_S1 p2_h56_s (ck_S1 p2_h57_s (ck_S1 p2_h58_s (ck_S1 p2_h59_s (ck_S1 p2_h60_s (ck_S1 p2_h61_s (ck_S1 p2_h62_s (ck_S1 p2_h63_s (ck_S1 p2_h64_s (ck_S1 p2_h65_s (ck_S1 p2_h66_s (ck_S1 p2_h67_s (ck_S1 p2_h68_s (ck_S1 p2_h69_s (ck_S1 p2_h70_s (ck_S1 p2_h71_s ck_S0)))))))))))))))))))))))))
theorem hx_open_c : hx_open.all (bc_chk p2_O 0 0 1 true true 0 1 6 226 5) = true := by decide +kernel
theorem hx_open_v : bc_cov 60 [(-2147483648, 2147483647)] (hx_open.map bc_box) = true := by decide +kernel
def hl_open : List ck_Sum := [pl_h46, pl_h47, pl_h48, pl_h49, pl_h50, pl_h51, pl_h52, pl_h53, pl_h54, pl_h55, pl_h56, pl_h57, pl_h58, pl_h59, pl_h60, pl_h61, pl_h62, pl_h63, pl_h64, pl_h65, pl_h66, pl_h67, pl_h68, pl_h69, pl_h70, pl_h71]
theorem hl_open_s {X : Int → Int} {LX : Nat} : ∀ S ∈ hl_open, ck_Ok p2_OL X LX 157 S := ck_S1 pl_h46_s (ck_S1 pl_h47_s (ck_S1 pl_h48_s (ck_S1 pl_h49_s (ck_S1 pl_h50_s (ck_S1 pl_h51_s (ck_S1 pl_h52_s (ck_S1 pl_h53_s (ck_S1 pl_h54_s (ck_S1 pl_h55_s (ck_S1 pl_h56_s (ck_S1 pl_h57_s (ck_S1 pl_h58_s (ck_S1 pl_h59_s (ck_S1 pl_h60_s (ck_S1 pl_h61_s (ck_S1 pl_h62_s (ck_S1 pl_h63_s (ck_S1 pl_h64_s (ck_S1 pl_h65_s (ck_S1 pl_h66_s (ck_S1 pl_h67_s (ck_S1 pl_h68_s (ck_S1 pl_h69_s (ck_S1 pl_h70_s (ck_S1 pl_h71_s ck_S0)))))))))))))))))))))))))
theorem hl_open_c : hl_open.all (bc_chk p2_OL 246 1 1 true true 0 1 6 226 5) = true := by decide +kernel
theorem hl_open_v : bc_cov 60 [(-2147483648, 2147483647)] (hl_open.map bc_box) = true := by decide +kernel
def hm_open : List ck_Sum := [p2_s822, p2_s823, p2_s834, p2_s845, p2_s856, p2_s867, p2_s878, p2_s889, p2_s900, p2_s911, p2_s922, p2_s933, p2_s944, p2_s955, p2_s966, p2_s977, p2_s988, p2_s999, p2_s1010, p2_s1021, p2_s1032, p2_s1043, p2_s1054, p2_s1065, p2_s1076, p2_s1087]
theorem hm_open_s {X : Int → Int} {LX : Nat} : ∀ S ∈ hm_open, ck_Ok p2_O X LX 318 S := ck_S1 p2_s822_s (ck_S1 p2_s823_s (ck_S1 p2_s834_s (ck_S1 p2_s845_s (ck_S1 p2_s856_s (ck_S1 p2_s867_s (ck_S1 p2_s878_s (ck_S1 p2_s889_s (ck_S1 p2_s900_s (ck_S1 p2_s911_s (ck_S1 p2_s922_s (ck_S1 p2_s933_s (ck_S1 p2_s944_s (ck_S1 p2_s955_s (ck_S1 p2_s966_s (ck_S1 p2_s977_s (ck_S1 p2_s988_s (ck_S1 p2_s999_s (ck_S1 p2_s1010_s (ck_S1 p2_s1021_s (ck_S1 p2_s1032_s (ck_S1 p2_s1043_s (ck_S1 p2_s1054_s (ck_S1 p2_s1065_s (ck_S1 p2_s1076_s (ck_S1 p2_s1087_s ck_S0)))))))))))))))))))))))))
theorem hm_open_c : hm_open.all (bc_chk p2_O 100003 0 226 false true 0 226 5 1 6) = true := by decide +kernel
theorem hm_open_v : bc_cov 60 [(-2147483648, 2147483647)] (hm_open.map bc_box) = true := by decide +kernel
def hx_years : List ck_Sum := [p2_h72, p2_h73, p2_h74]
theorem hx_years_s {X : Int → Int} {LX : Nat} : ∀ S ∈ hx_years, ck_Ok p2_O X LX 160 S := ck_S1 p2_h72_s (ck_S1 p2_h73_s (ck_S1 p2_h74_s ck_S0))
theorem hx_years_c : hx_years.all (bc_chk p2_O 0 0 1 true true 0 1 6 226 5) = true := by decide +kernel
theorem hx_years_v : bc_cov 60 [(-2147483648, 2147483647)] (hx_years.map bc_box) = true := by decide +kernel
def hl_years : List ck_Sum := [pl_h72, pl_h73, pl_h74]
theorem hl_years_s {X : Int → Int} {LX : Nat} : ∀ S ∈ hl_years, ck_Ok p2_OL X LX 160 S := ck_S1 pl_h72_s (ck_S1 pl_h73_s (ck_S1 pl_h74_s ck_S0))
theorem hl_years_c : hl_years.all (bc_chk p2_OL 246 1 1 true true 0 1 6 226 5) = true := by decide +kernel
theorem hl_years_v : bc_cov 60 [(-2147483648, 2147483647)] (hl_years.map bc_box) = true := by decide +kernel
def hm_years : List ck_Sum := [p2_s1151, p2_s1153, p2_s1206, p2_s1208, p2_s1210, p2_s1212, p2_s1214, p2_s1216, p2_s1218, p2_s1220, p2_s1222, p2_s1224, p2_s1226, p2_s1228, p2_s1230, p2_s1232, p2_s1234, p2_s1236, p2_s1238, p2_s1240, p2_s1242, p2_s1244, p2_s1246, p2_s1248, p2_s1250, p2_s1252, p2_s1254, p2_s1256, p2_s1258, p2_s1260, p2_s1262, p2_s1264, p2_s1266, p2_s1268, p2_s1270, p2_s1272, p2_s1274, p2_s1276, p2_s1278, p2_s1280, p2_s1282, p2_s1284, p2_s1286, p2_s1288, p2_s1290, p2_s1292, p2_s1294, p2_s1296, p2_s1298, p2_s1300, p2_s1302, p2_s1304]
theorem hm_years_s {X : Int → Int} {LX : Nat} : ∀ S ∈ hm_years, ck_Ok p2_O X LX 320 S := ck_S1 p2_s1151_s (ck_S1 p2_s1153_s (ck_S1 p2_s1206_s (ck_S1 p2_s1208_s (ck_S1 p2_s1210_s (ck_S1 p2_s1212_s (ck_S1 p2_s1214_s (ck_S1 p2_s1216_s (ck_S1 p2_s1218_s (ck_S1 p2_s1220_s (ck_S1 p2_s1222_s (ck_S1 p2_s1224_s (ck_S1 p2_s1226_s (ck_S1 p2_s1228_s (ck_S1 p2_s1230_s (ck_S1 p2_s1232_s (ck_S1 p2_s1234_s (ck_S1 p2_s1236_s (ck_S1 p2_s1238_s (ck_S1 p2_s1240_s (ck_S1 p2_s1242_s (ck_S1 p2_s1244_s (ck_S1 p2_s1246_s (ck_S1 p2_s1248_s (ck_S1 p2_s1250_s (ck_S1 p2_s1252_s (ck_S1 p2_s1254_s (ck_S1 p2_s1256_s (ck_S1 p2_s1258_s (ck_S1 p2_s1260_s (ck_S1 p2_s1262_s (ck_S1 p2_s1264_s (ck_S1 p2_s1266_s (ck_S1 p2_s1268_s (ck_S1 p2_s1270_s (ck_S1 p2_s1272_s (ck_S1 p2_s1274_s (ck_S1 p2_s1276_s (ck_S1 p2_s1278_s (ck_S1 p2_s1280_s (ck_S1 p2_s1282_s (ck_S1 p2_s1284_s (ck_S1 p2_s1286_s (ck_S1 p2_s1288_s (ck_S1 p2_s1290_s (ck_S1 p2_s1292_s (ck_S1 p2_s1294_s (ck_S1 p2_s1296_s (ck_S1 p2_s1298_s (ck_S1 p2_s1300_s (ck_S1 p2_s1302_s (ck_S1 p2_s1304_s ck_S0)))))))))))))))))))))))))))))))))))))))))))))))))))
theorem hm_years_c : hm_years.all (bc_chk p2_O 100003 0 226 false true 0 226 5 1 6) = true := by decide +kernel
theorem hm_years_v : bc_cov 60 [(-2147483648, 2147483647)] (hm_years.map bc_box) = true := by decide +kernel
def hx_throwsFor : List ck_Sum := [p2_h124, p2_h125, p2_h126, p2_h127, p2_h128, p2_h129, p2_h130, p2_h131, p2_h132]
theorem hx_throwsFor_s {X : Int → Int} {LX : Nat} : ∀ S ∈ hx_throwsFor, ck_Ok p2_O X LX 166 S := ck_S1 p2_h124_s (ck_S1 p2_h125_s (ck_S1 p2_h126_s (ck_S1 p2_h127_s (ck_S1 p2_h128_s (ck_S1 p2_h129_s (ck_S1 p2_h130_s (ck_S1 p2_h131_s (ck_S1 p2_h132_s ck_S0))))))))
theorem hx_throwsFor_c : hx_throwsFor.all (bc_chk p2_O 0 0 1 true true 0 1 6 226 5) = true := by decide +kernel
theorem hx_throwsFor_v : bc_cov 60 [(-2147483648, 2147483647), (-2147483648, 2147483647), (-2147483648, 2147483647), (-2147483648, 2147483647)] (hx_throwsFor.map bc_box) = true := by decide +kernel
def hl_throwsFor : List ck_Sum := [pl_h124, pl_h125, pl_h126, pl_h127, pl_h128, pl_h129, pl_h130, pl_h131, pl_h132]
theorem hl_throwsFor_s {X : Int → Int} {LX : Nat} : ∀ S ∈ hl_throwsFor, ck_Ok p2_OL X LX 166 S := ck_S1 pl_h124_s (ck_S1 pl_h125_s (ck_S1 pl_h126_s (ck_S1 pl_h127_s (ck_S1 pl_h128_s (ck_S1 pl_h129_s (ck_S1 pl_h130_s (ck_S1 pl_h131_s (ck_S1 pl_h132_s ck_S0))))))))
theorem hl_throwsFor_c : hl_throwsFor.all (bc_chk p2_OL 246 1 1 true true 0 1 6 226 5) = true := by decide +kernel
theorem hl_throwsFor_v : bc_cov 60 [(-2147483648, 2147483647), (-2147483648, 2147483647), (-2147483648, 2147483647), (-2147483648, 2147483647)] (hl_throwsFor.map bc_box) = true := by decide +kernel
def hm_throwsFor : List ck_Sum := [p2_s1315, p2_s1316, p2_s1317, p2_s1318, p2_s1319, p2_s1320, p2_s1322, p2_s1324, p2_s1327]
theorem hm_throwsFor_s {X : Int → Int} {LX : Nat} : ∀ S ∈ hm_throwsFor, ck_Ok p2_O X LX 324 S := ck_S1 p2_s1315_s (ck_S1 p2_s1316_s (ck_S1 p2_s1317_s (ck_S1 p2_s1318_s (ck_S1 p2_s1319_s (ck_S1 p2_s1320_s (ck_S1 p2_s1322_s (ck_S1 p2_s1324_s (ck_S1 p2_s1327_s ck_S0))))))))
theorem hm_throwsFor_c : hm_throwsFor.all (bc_chk p2_O 100003 0 226 false true 0 226 5 1 6) = true := by decide +kernel
theorem hm_throwsFor_v : bc_cov 60 [(-2147483648, 2147483647), (-2147483648, 2147483647), (-2147483648, 2147483647), (-2147483648, 2147483647)] (hm_throwsFor.map bc_box) = true := by decide +kernel
def hx_latest : List ck_Sum := [p2_h133, p2_h134, p2_h135, p2_h136, p2_h137]
theorem hx_latest_s {X : Int → Int} {LX : Nat} : ∀ S ∈ hx_latest, ck_Ok p2_O X LX 168 S := ck_S1 p2_h133_s (ck_S1 p2_h134_s (ck_S1 p2_h135_s (ck_S1 p2_h136_s (ck_S1 p2_h137_s ck_S0))))
theorem hx_latest_c : hx_latest.all (bc_chk p2_O 0 0 1 true true 0 1 6 226 5) = true := by decide +kernel
theorem hx_latest_v : bc_cov 60 [(-2147483648, 2147483647), (-2147483648, 2147483647)] (hx_latest.map bc_box) = true := by decide +kernel
def hl_latest : List ck_Sum := [pl_h133, pl_h134, pl_h135, pl_h136, pl_h137]
theorem hl_latest_s {X : Int → Int} {LX : Nat} : ∀ S ∈ hl_latest, ck_Ok p2_OL X LX 168 S := ck_S1 pl_h133_s (ck_S1 pl_h134_s (ck_S1 pl_h135_s (ck_S1 pl_h136_s (ck_S1 pl_h137_s ck_S0))))
theorem hl_latest_c : hl_latest.all (bc_chk p2_OL 246 1 1 true true 0 1 6 226 5) = true := by decide +kernel
theorem hl_latest_v : bc_cov 60 [(-2147483648, 2147483647), (-2147483648, 2147483647)] (hl_latest.map bc_box) = true := by decide +kernel
def hm_latest : List ck_Sum := [p2_s1334, p2_s1335, p2_s1336, p2_s1337, p2_s1338]
theorem hm_latest_s {X : Int → Int} {LX : Nat} : ∀ S ∈ hm_latest, ck_Ok p2_O X LX 326 S := ck_S1 p2_s1334_s (ck_S1 p2_s1335_s (ck_S1 p2_s1336_s (ck_S1 p2_s1337_s (ck_S1 p2_s1338_s ck_S0))))
theorem hm_latest_c : hm_latest.all (bc_chk p2_O 100003 0 226 false true 0 226 5 1 6) = true := by decide +kernel
theorem hm_latest_v : bc_cov 60 [(-2147483648, 2147483647), (-2147483648, 2147483647)] (hm_latest.map bc_box) = true := by decide +kernel
def hx_hut : List ck_Sum := [p2_h138, p2_h139, p2_h140, p2_h141, p2_h142]
theorem hx_hut_s {X : Int → Int} {LX : Nat} : ∀ S ∈ hx_hut, ck_Ok p2_O X LX 171 S := ck_S1 p2_h138_s (ck_S1 p2_h139_s (ck_S1 p2_h140_s (ck_S1 p2_h141_s (ck_S1 p2_h142_s ck_S0))))
theorem hx_hut_c : hx_hut.all (bc_chk p2_O 0 0 1 true true 0 1 6 226 5) = true := by decide +kernel
theorem hx_hut_v : bc_cov 60 [(-2147483648, 2147483647), (-2147483648, 2147483647)] (hx_hut.map bc_box) = true := by decide +kernel
def hl_hut : List ck_Sum := [pl_h138, pl_h139, pl_h140, pl_h141, pl_h142]
theorem hl_hut_s {X : Int → Int} {LX : Nat} : ∀ S ∈ hl_hut, ck_Ok p2_OL X LX 171 S := ck_S1 pl_h138_s (ck_S1 pl_h139_s (ck_S1 pl_h140_s (ck_S1 pl_h141_s (ck_S1 pl_h142_s ck_S0))))
theorem hl_hut_c : hl_hut.all (bc_chk p2_OL 246 1 1 true true 0 1 6 226 5) = true := by decide +kernel
theorem hl_hut_v : bc_cov 60 [(-2147483648, 2147483647), (-2147483648, 2147483647)] (hl_hut.map bc_box) = true := by decide +kernel
def hm_hut : List ck_Sum := [p2_s1344, p2_s1345, p2_s1347, p2_s1349, p2_s1351]
theorem hm_hut_s {X : Int → Int} {LX : Nat} : ∀ S ∈ hm_hut, ck_Ok p2_O X LX 327 S := ck_S1 p2_s1344_s (ck_S1 p2_s1345_s (ck_S1 p2_s1347_s (ck_S1 p2_s1349_s (ck_S1 p2_s1351_s ck_S0))))
theorem hm_hut_c : hm_hut.all (bc_chk p2_O 100003 0 226 false true 0 226 5 1 6) = true := by decide +kernel
theorem hm_hut_v : bc_cov 60 [(-2147483648, 2147483647), (-2147483648, 2147483647)] (hm_hut.map bc_box) = true := by decide +kernel
def hx_without : List ck_Sum := [p2_h143, p2_h144, p2_h145, p2_h146, p2_h147]
theorem hx_without_s {X : Int → Int} {LX : Nat} : ∀ S ∈ hx_without, ck_Ok p2_O X LX 173 S := ck_S1 p2_h143_s (ck_S1 p2_h144_s (ck_S1 p2_h145_s (ck_S1 p2_h146_s (ck_S1 p2_h147_s ck_S0))))
theorem hx_without_c : hx_without.all (bc_chk p2_O 0 0 1 true true 0 1 6 226 5) = true := by decide +kernel
theorem hx_without_v : bc_cov 60 [(-2147483648, 2147483647), (-2147483648, 2147483647)] (hx_without.map bc_box) = true := by decide +kernel
def hl_without : List ck_Sum := [pl_h143, pl_h144, pl_h145, pl_h146, pl_h147]
theorem hl_without_s {X : Int → Int} {LX : Nat} : ∀ S ∈ hl_without, ck_Ok p2_OL X LX 173 S := ck_S1 pl_h143_s (ck_S1 pl_h144_s (ck_S1 pl_h145_s (ck_S1 pl_h146_s (ck_S1 pl_h147_s ck_S0))))
theorem hl_without_c : hl_without.all (bc_chk p2_OL 246 1 1 true true 0 1 6 226 5) = true := by decide +kernel
theorem hl_without_v : bc_cov 60 [(-2147483648, 2147483647), (-2147483648, 2147483647)] (hl_without.map bc_box) = true := by decide +kernel
def hm_without : List ck_Sum := [p2_s1358, p2_s1359, p2_s1360, p2_s1361, p2_s1362]
theorem hm_without_s {X : Int → Int} {LX : Nat} : ∀ S ∈ hm_without, ck_Ok p2_O X LX 328 S := ck_S1 p2_s1358_s (ck_S1 p2_s1359_s (ck_S1 p2_s1360_s (ck_S1 p2_s1361_s (ck_S1 p2_s1362_s ck_S0))))
theorem hm_without_c : hm_without.all (bc_chk p2_O 100003 0 226 false true 0 226 5 1 6) = true := by decide +kernel
theorem hm_without_v : bc_cov 60 [(-2147483648, 2147483647), (-2147483648, 2147483647)] (hm_without.map bc_box) = true := by decide +kernel
def hx_moved : List ck_Sum := [p2_h148, p2_h149, p2_h150]
theorem hx_moved_s {X : Int → Int} {LX : Nat} : ∀ S ∈ hx_moved, ck_Ok p2_O X LX 176 S := ck_S1 p2_h148_s (ck_S1 p2_h149_s (ck_S1 p2_h150_s ck_S0))
theorem hx_moved_c : hx_moved.all (bc_chk p2_O 0 0 1 true true 0 1 6 226 5) = true := by decide +kernel
theorem hx_moved_v : bc_cov 60 [(-2147483648, 2147483647)] (hx_moved.map bc_box) = true := by decide +kernel
def hl_moved : List ck_Sum := [pl_h148, pl_h149, pl_h150]
theorem hl_moved_s {X : Int → Int} {LX : Nat} : ∀ S ∈ hl_moved, ck_Ok p2_OL X LX 176 S := ck_S1 pl_h148_s (ck_S1 pl_h149_s (ck_S1 pl_h150_s ck_S0))
theorem hl_moved_c : hl_moved.all (bc_chk p2_OL 246 1 1 true true 0 1 6 226 5) = true := by decide +kernel
theorem hl_moved_v : bc_cov 60 [(-2147483648, 2147483647)] (hl_moved.map bc_box) = true := by decide +kernel
def hm_moved : List ck_Sum := [p2_s1366, p2_s1367, p2_s1368]
theorem hm_moved_s {X : Int → Int} {LX : Nat} : ∀ S ∈ hm_moved, ck_Ok p2_O X LX 329 S := ck_S1 p2_s1366_s (ck_S1 p2_s1367_s (ck_S1 p2_s1368_s ck_S0))
theorem hm_moved_c : hm_moved.all (bc_chk p2_O 100003 0 226 false true 0 226 5 1 6) = true := by decide +kernel
theorem hm_moved_v : bc_cov 60 [(-2147483648, 2147483647)] (hm_moved.map bc_box) = true := by decide +kernel
def hx_lost : List ck_Sum := [p2_s1369]
theorem hx_lost_s {X : Int → Int} {LX : Nat} : ∀ S ∈ hx_lost, ck_Ok p2_O X LX 23 S := ck_S1 p2_s1369_s ck_S0
theorem hx_lost_c : hx_lost.all (bc_chk p2_O 0 0 1 false true 0 1 6 226 5) = true := by decide +kernel
theorem hx_lost_v : bc_cov 60 [] (hx_lost.map bc_box) = true := by decide +kernel
def hl_lost : List ck_Sum := [pl_s713]
theorem hl_lost_s {X : Int → Int} {LX : Nat} : ∀ S ∈ hl_lost, ck_Ok p2_OL X LX 23 S := ck_S1 pl_s713_s ck_S0
theorem hl_lost_c : hl_lost.all (bc_chk p2_OL 246 1 1 false true 0 1 6 226 5) = true := by decide +kernel
theorem hl_lost_v : bc_cov 60 [] (hl_lost.map bc_box) = true := by decide +kernel
def hm_lost : List ck_Sum := [p2_s1370]
theorem hm_lost_s {X : Int → Int} {LX : Nat} : ∀ S ∈ hm_lost, ck_Ok p2_O X LX 330 S := ck_S1 p2_s1370_s ck_S0
theorem hm_lost_c : hm_lost.all (bc_chk p2_O 100003 0 226 false true 0 226 5 1 6) = true := by decide +kernel
theorem hm_lost_v : bc_cov 60 [] (hm_lost.map bc_box) = true := by decide +kernel
def hx_market : List ck_Sum := [p2_s1372]
theorem hx_market_s {X : Int → Int} {LX : Nat} : ∀ S ∈ hx_market, ck_Ok p2_O X LX 46 S := ck_S1 p2_s1372_s ck_S0
theorem hx_market_c : hx_market.all (bc_chk p2_O 0 0 1 false true 0 1 6 226 5) = true := by decide +kernel
theorem hx_market_v : bc_cov 60 [(0, 1)] (hx_market.map bc_box) = true := by decide +kernel
def hl_market : List ck_Sum := [pl_s715]
theorem hl_market_s {X : Int → Int} {LX : Nat} : ∀ S ∈ hl_market, ck_Ok p2_OL X LX 46 S := ck_S1 pl_s715_s ck_S0
theorem hl_market_c : hl_market.all (bc_chk p2_OL 246 1 1 false true 0 1 6 226 5) = true := by decide +kernel
theorem hl_market_v : bc_cov 60 [(0, 1)] (hl_market.map bc_box) = true := by decide +kernel
def hm_market : List ck_Sum := [p2_s1375]
theorem hm_market_s {X : Int → Int} {LX : Nat} : ∀ S ∈ hm_market, ck_Ok p2_O X LX 331 S := ck_S1 p2_s1375_s ck_S0
theorem hm_market_c : hm_market.all (bc_chk p2_O 100003 0 226 false true 0 226 5 1 6) = true := by decide +kernel
theorem hm_market_v : bc_cov 60 [(0, 1)] (hm_market.map bc_box) = true := by decide +kernel
def hx_passes : List ck_Sum := [p2_h151, p2_h152, p2_h153]
theorem hx_passes_s {X : Int → Int} {LX : Nat} : ∀ S ∈ hx_passes, ck_Ok p2_O X LX 178 S := ck_S1 p2_h151_s (ck_S1 p2_h152_s (ck_S1 p2_h153_s ck_S0))
theorem hx_passes_c : hx_passes.all (bc_chk p2_O 0 0 1 true true 0 1 6 226 5) = true := by decide +kernel
theorem hx_passes_v : bc_cov 60 [(-2147483648, 2147483647)] (hx_passes.map bc_box) = true := by decide +kernel
def hl_passes : List ck_Sum := [pl_h151, pl_h152, pl_h153]
theorem hl_passes_s {X : Int → Int} {LX : Nat} : ∀ S ∈ hl_passes, ck_Ok p2_OL X LX 178 S := ck_S1 pl_h151_s (ck_S1 pl_h152_s (ck_S1 pl_h153_s ck_S0))
theorem hl_passes_c : hl_passes.all (bc_chk p2_OL 246 1 1 true true 0 1 6 226 5) = true := by decide +kernel
theorem hl_passes_v : bc_cov 60 [(-2147483648, 2147483647)] (hl_passes.map bc_box) = true := by decide +kernel
def hm_passes : List ck_Sum := [p2_s1392, p2_s1393, p2_s1398]
theorem hm_passes_s {X : Int → Int} {LX : Nat} : ∀ S ∈ hm_passes, ck_Ok p2_O X LX 334 S := ck_S1 p2_s1392_s (ck_S1 p2_s1393_s (ck_S1 p2_s1398_s ck_S0))
theorem hm_passes_c : hm_passes.all (bc_chk p2_O 100003 0 226 false true 0 226 5 1 6) = true := by decide +kernel
theorem hm_passes_v : bc_cov 60 [(-2147483648, 2147483647)] (hm_passes.map bc_box) = true := by decide +kernel
def hx_writers : List ck_Sum := [p2_h154, p2_h155, p2_h156, p2_h157, p2_h158, p2_h159, p2_h160]
theorem hx_writers_s {X : Int → Int} {LX : Nat} : ∀ S ∈ hx_writers, ck_Ok p2_O X LX 185 S := ck_S1 p2_h154_s (ck_S1 p2_h155_s (ck_S1 p2_h156_s (ck_S1 p2_h157_s (ck_S1 p2_h158_s (ck_S1 p2_h159_s (ck_S1 p2_h160_s ck_S0))))))
theorem hx_writers_c : hx_writers.all (bc_chk p2_O 0 0 1 true true 0 1 6 226 5) = true := by decide +kernel
theorem hx_writers_v : bc_cov 60 [(-2147483648, 2147483647), (-2147483648, 2147483647), (-2147483648, 2147483647)] (hx_writers.map bc_box) = true := by decide +kernel
def hl_writers : List ck_Sum := [pl_h154, pl_h155, pl_h156, pl_h157, pl_h158, pl_h159, pl_h160]
theorem hl_writers_s {X : Int → Int} {LX : Nat} : ∀ S ∈ hl_writers, ck_Ok p2_OL X LX 185 S := ck_S1 pl_h154_s (ck_S1 pl_h155_s (ck_S1 pl_h156_s (ck_S1 pl_h157_s (ck_S1 pl_h158_s (ck_S1 pl_h159_s (ck_S1 pl_h160_s ck_S0))))))
theorem hl_writers_c : hl_writers.all (bc_chk p2_OL 246 1 1 true true 0 1 6 226 5) = true := by decide +kernel
theorem hl_writers_v : bc_cov 60 [(-2147483648, 2147483647), (-2147483648, 2147483647), (-2147483648, 2147483647)] (hl_writers.map bc_box) = true := by decide +kernel
def hm_writers : List ck_Sum := [p2_s1412, p2_s1413, p2_s1414, p2_s1415, p2_s1417, p2_s1419, p2_s1422]
theorem hm_writers_s {X : Int → Int} {LX : Nat} : ∀ S ∈ hm_writers, ck_Ok p2_O X LX 338 S := ck_S1 p2_s1412_s (ck_S1 p2_s1413_s (ck_S1 p2_s1414_s (ck_S1 p2_s1415_s (ck_S1 p2_s1417_s (ck_S1 p2_s1419_s (ck_S1 p2_s1422_s ck_S0))))))
theorem hm_writers_c : hm_writers.all (bc_chk p2_O 100003 0 226 false true 0 226 5 1 6) = true := by decide +kernel
theorem hm_writers_v : bc_cov 60 [(-2147483648, 2147483647), (-2147483648, 2147483647), (-2147483648, 2147483647)] (hm_writers.map bc_box) = true := by decide +kernel
def hx_wrote : List ck_Sum := [p2_h161, p2_h162, p2_h163, p2_h164, p2_h165, p2_h166, p2_h167, p2_h168, p2_h169]
theorem hx_wrote_s {X : Int → Int} {LX : Nat} : ∀ S ∈ hx_wrote, ck_Ok p2_O X LX 189 S := ck_S1 p2_h161_s (ck_S1 p2_h162_s (ck_S1 p2_h163_s (ck_S1 p2_h164_s (ck_S1 p2_h165_s (ck_S1 p2_h166_s (ck_S1 p2_h167_s (ck_S1 p2_h168_s (ck_S1 p2_h169_s ck_S0))))))))
theorem hx_wrote_c : hx_wrote.all (bc_chk p2_O 0 0 1 true true 0 1 6 226 5) = true := by decide +kernel
theorem hx_wrote_v : bc_cov 60 [(-2147483648, 2147483647), (-2147483648, 2147483647), (-2147483648, 2147483647), (-2147483648, 2147483647)] (hx_wrote.map bc_box) = true := by decide +kernel
def hl_wrote : List ck_Sum := [pl_h161, pl_h162, pl_h163, pl_h164, pl_h165, pl_h166, pl_h167, pl_h168, pl_h169]
theorem hl_wrote_s {X : Int → Int} {LX : Nat} : ∀ S ∈ hl_wrote, ck_Ok p2_OL X LX 189 S := ck_S1 pl_h161_s (ck_S1 pl_h162_s (ck_S1 pl_h163_s (ck_S1 pl_h164_s (ck_S1 pl_h165_s (ck_S1 pl_h166_s (ck_S1 pl_h167_s (ck_S1 pl_h168_s (ck_S1 pl_h169_s ck_S0))))))))
theorem hl_wrote_c : hl_wrote.all (bc_chk p2_OL 246 1 1 true true 0 1 6 226 5) = true := by decide +kernel
theorem hl_wrote_v : bc_cov 60 [(-2147483648, 2147483647), (-2147483648, 2147483647), (-2147483648, 2147483647), (-2147483648, 2147483647)] (hl_wrote.map bc_box) = true := by decide +kernel
def hm_wrote : List ck_Sum := [p2_s1432, p2_s1433, p2_s1434, p2_s1435, p2_s1436, p2_s1437, p2_s1438, p2_s1439, p2_s1440]
theorem hm_wrote_s {X : Int → Int} {LX : Nat} : ∀ S ∈ hm_wrote, ck_Ok p2_O X LX 340 S := ck_S1 p2_s1432_s (ck_S1 p2_s1433_s (ck_S1 p2_s1434_s (ck_S1 p2_s1435_s (ck_S1 p2_s1436_s (ck_S1 p2_s1437_s (ck_S1 p2_s1438_s (ck_S1 p2_s1439_s (ck_S1 p2_s1440_s ck_S0))))))))
theorem hm_wrote_c : hm_wrote.all (bc_chk p2_O 100003 0 226 false true 0 226 5 1 6) = true := by decide +kernel
theorem hm_wrote_v : bc_cov 60 [(-2147483648, 2147483647), (-2147483648, 2147483647), (-2147483648, 2147483647), (-2147483648, 2147483647)] (hm_wrote.map bc_box) = true := by decide +kernel
def hx_table : List ck_Sum := [p2_h170, p2_h171, p2_h172, p2_h173, p2_h174]
theorem hx_table_s {X : Int → Int} {LX : Nat} : ∀ S ∈ hx_table, ck_Ok p2_O X LX 191 S := ck_S1 p2_h170_s (ck_S1 p2_h171_s (ck_S1 p2_h172_s (ck_S1 p2_h173_s (ck_S1 p2_h174_s ck_S0))))
theorem hx_table_c : hx_table.all (bc_chk p2_O 0 0 1 true true 0 1 6 226 5) = true := by decide +kernel
theorem hx_table_v : bc_cov 60 [(-2147483648, 2147483647), (-2147483648, 2147483647)] (hx_table.map bc_box) = true := by decide +kernel
def hl_table : List ck_Sum := [pl_h170, pl_h171, pl_h172, pl_h173, pl_h174]
theorem hl_table_s {X : Int → Int} {LX : Nat} : ∀ S ∈ hl_table, ck_Ok p2_OL X LX 191 S := ck_S1 pl_h170_s (ck_S1 pl_h171_s (ck_S1 pl_h172_s (ck_S1 pl_h173_s (ck_S1 pl_h174_s ck_S0))))
theorem hl_table_c : hl_table.all (bc_chk p2_OL 246 1 1 true true 0 1 6 226 5) = true := by decide +kernel
theorem hl_table_v : bc_cov 60 [(-2147483648, 2147483647), (-2147483648, 2147483647)] (hl_table.map bc_box) = true := by decide +kernel
def hm_table : List ck_Sum := [p2_s1455, p2_s1457, p2_s1459, p2_s1460, p2_s1462]
theorem hm_table_s {X : Int → Int} {LX : Nat} : ∀ S ∈ hm_table, ck_Ok p2_O X LX 341 S := ck_S1 p2_s1455_s (ck_S1 p2_s1457_s (ck_S1 p2_s1459_s (ck_S1 p2_s1460_s (ck_S1 p2_s1462_s ck_S0))))
theorem hm_table_c : hm_table.all (bc_chk p2_O 100003 0 226 false true 0 226 5 1 6) = true := by decide +kernel
theorem hm_table_v : bc_cov 60 [(-2147483648, 2147483647), (-2147483648, 2147483647)] (hm_table.map bc_box) = true := by decide +kernel
def hx_apart : List ck_Sum := [p2_h175, p2_h176, p2_h177, p2_h178, p2_h179]
theorem hx_apart_s {X : Int → Int} {LX : Nat} : ∀ S ∈ hx_apart, ck_Ok p2_O X LX 194 S := ck_S1 p2_h175_s (ck_S1 p2_h176_s (ck_S1 p2_h177_s (ck_S1 p2_h178_s (ck_S1 p2_h179_s ck_S0))))
theorem hx_apart_c : hx_apart.all (bc_chk p2_O 0 0 1 true true 0 1 6 226 5) = true := by decide +kernel
theorem hx_apart_v : bc_cov 60 [(-2147483648, 2147483647), (-2147483648, 2147483647), (-2147483648, 2147483647)] (hx_apart.map bc_box) = true := by decide +kernel
def hl_apart : List ck_Sum := [pl_h175, pl_h176, pl_h177, pl_h178, pl_h179]
theorem hl_apart_s {X : Int → Int} {LX : Nat} : ∀ S ∈ hl_apart, ck_Ok p2_OL X LX 194 S := ck_S1 pl_h175_s (ck_S1 pl_h176_s (ck_S1 pl_h177_s (ck_S1 pl_h178_s (ck_S1 pl_h179_s ck_S0))))
theorem hl_apart_c : hl_apart.all (bc_chk p2_OL 246 1 1 true true 0 1 6 226 5) = true := by decide +kernel
theorem hl_apart_v : bc_cov 60 [(-2147483648, 2147483647), (-2147483648, 2147483647), (-2147483648, 2147483647)] (hl_apart.map bc_box) = true := by decide +kernel
def hm_apart : List ck_Sum := [p2_s1469, p2_s1470, p2_s1471, p2_s1472, p2_s1475]
theorem hm_apart_s {X : Int → Int} {LX : Nat} : ∀ S ∈ hm_apart, ck_Ok p2_O X LX 344 S := ck_S1 p2_s1469_s (ck_S1 p2_s1470_s (ck_S1 p2_s1471_s (ck_S1 p2_s1472_s (ck_S1 p2_s1475_s ck_S0))))
theorem hm_apart_c : hm_apart.all (bc_chk p2_O 100003 0 226 false true 0 226 5 1 6) = true := by decide +kernel
theorem hm_apart_v : bc_cov 60 [(-2147483648, 2147483647), (-2147483648, 2147483647), (-2147483648, 2147483647)] (hm_apart.map bc_box) = true := by decide +kernel
def hx_poles : List ck_Sum := [p2_s1478]
theorem hx_poles_s {X : Int → Int} {LX : Nat} : ∀ S ∈ hx_poles, ck_Ok p2_O X LX 48 S := ck_S1 p2_s1478_s ck_S0
theorem hx_poles_c : hx_poles.all (bc_chk p2_O 0 0 1 false true 0 1 6 226 5) = true := by decide +kernel
theorem hx_poles_v : bc_cov 60 [] (hx_poles.map bc_box) = true := by decide +kernel
def hl_poles : List ck_Sum := [pl_s775]
theorem hl_poles_s {X : Int → Int} {LX : Nat} : ∀ S ∈ hl_poles, ck_Ok p2_OL X LX 48 S := ck_S1 pl_s775_s ck_S0
theorem hl_poles_c : hl_poles.all (bc_chk p2_OL 246 1 1 false true 0 1 6 226 5) = true := by decide +kernel
theorem hl_poles_v : bc_cov 60 [] (hl_poles.map bc_box) = true := by decide +kernel
def hm_poles : List ck_Sum := [p2_s1479]
theorem hm_poles_s {X : Int → Int} {LX : Nat} : ∀ S ∈ hm_poles, ck_Ok p2_O X LX 347 S := ck_S1 p2_s1479_s ck_S0
theorem hm_poles_c : hm_poles.all (bc_chk p2_O 100003 0 226 false true 0 226 5 1 6) = true := by decide +kernel
theorem hm_poles_v : bc_cov 60 [] (hm_poles.map bc_box) = true := by decide +kernel
def hx_fit : List ck_Sum := [p2_h180]
theorem hx_fit_s {X : Int → Int} {LX : Nat} : ∀ S ∈ hx_fit, ck_Ok p2_O X LX 196 S := ck_S1 p2_h180_s ck_S0
theorem hx_fit_c : hx_fit.all (bc_chk p2_O 0 0 1 true true 0 1 6 226 5) = true := by decide +kernel
theorem hx_fit_v : bc_cov 60 [] (hx_fit.map bc_box) = true := by decide +kernel
def hl_fit : List ck_Sum := [pl_h180]
theorem hl_fit_s {X : Int → Int} {LX : Nat} : ∀ S ∈ hl_fit, ck_Ok p2_OL X LX 196 S := ck_S1 pl_h180_s ck_S0
theorem hl_fit_c : hl_fit.all (bc_chk p2_OL 246 1 1 true true 0 1 6 226 5) = true := by decide +kernel
theorem hl_fit_v : bc_cov 60 [] (hl_fit.map bc_box) = true := by decide +kernel
def hm_fit : List ck_Sum := [p2_s1487]
theorem hm_fit_s {X : Int → Int} {LX : Nat} : ∀ S ∈ hm_fit, ck_Ok p2_O X LX 348 S := ck_S1 p2_s1487_s ck_S0
theorem hm_fit_c : hm_fit.all (bc_chk p2_O 100003 0 226 false true 0 226 5 1 6) = true := by decide +kernel
theorem hm_fit_v : bc_cov 60 [] (hm_fit.map bc_box) = true := by decide +kernel
def hx_soonest : List ck_Sum := [p2_h181, p2_h182, p2_h183, p2_h184, p2_h185]
theorem hx_soonest_s {X : Int → Int} {LX : Nat} : ∀ S ∈ hx_soonest, ck_Ok p2_O X LX 200 S := ck_S1 p2_h181_s (ck_S1 p2_h182_s (ck_S1 p2_h183_s (ck_S1 p2_h184_s (ck_S1 p2_h185_s ck_S0))))
theorem hx_soonest_c : hx_soonest.all (bc_chk p2_O 0 0 1 true true 0 1 6 226 5) = true := by decide +kernel
theorem hx_soonest_v : bc_cov 60 [(-2147483648, 2147483647), (-2147483648, 2147483647), (0, 1)] (hx_soonest.map bc_box) = true := by decide +kernel
def hl_soonest : List ck_Sum := [pl_h181, pl_h182, pl_h183, pl_h184, pl_h185]
theorem hl_soonest_s {X : Int → Int} {LX : Nat} : ∀ S ∈ hl_soonest, ck_Ok p2_OL X LX 200 S := ck_S1 pl_h181_s (ck_S1 pl_h182_s (ck_S1 pl_h183_s (ck_S1 pl_h184_s (ck_S1 pl_h185_s ck_S0))))
theorem hl_soonest_c : hl_soonest.all (bc_chk p2_OL 246 1 1 true true 0 1 6 226 5) = true := by decide +kernel
theorem hl_soonest_v : bc_cov 60 [(-2147483648, 2147483647), (-2147483648, 2147483647), (0, 1)] (hl_soonest.map bc_box) = true := by decide +kernel
def hm_soonest : List ck_Sum := [p2_s1507, p2_s1508, p2_s1509, p2_s1510, p2_s1515]
theorem hm_soonest_s {X : Int → Int} {LX : Nat} : ∀ S ∈ hm_soonest, ck_Ok p2_O X LX 349 S := ck_S1 p2_s1507_s (ck_S1 p2_s1508_s (ck_S1 p2_s1509_s (ck_S1 p2_s1510_s (ck_S1 p2_s1515_s ck_S0))))
theorem hm_soonest_c : hm_soonest.all (bc_chk p2_O 100003 0 226 false true 0 226 5 1 6) = true := by decide +kernel
theorem hm_soonest_v : bc_cov 60 [(-2147483648, 2147483647), (-2147483648, 2147483647), (0, 1)] (hm_soonest.map bc_box) = true := by decide +kernel
def hx_chain : List ck_Sum := [p2_h186, p2_h187, p2_h188, p2_h189, p2_h190, p2_h191, p2_h192]
theorem hx_chain_s {X : Int → Int} {LX : Nat} : ∀ S ∈ hx_chain, ck_Ok p2_O X LX 206 S := ck_S1 p2_h186_s (ck_S1 p2_h187_s (ck_S1 p2_h188_s (ck_S1 p2_h189_s (ck_S1 p2_h190_s (ck_S1 p2_h191_s (ck_S1 p2_h192_s ck_S0))))))
theorem hx_chain_c : hx_chain.all (bc_chk p2_O 0 0 1 true true 0 1 6 226 5) = true := by decide +kernel
theorem hx_chain_v : bc_cov 60 [(-2147483648, 2147483647), (-2147483648, 2147483647), (-2147483648, 2147483647)] (hx_chain.map bc_box) = true := by decide +kernel
def hl_chain : List ck_Sum := [pl_h186, pl_h187, pl_h188, pl_h189, pl_h190, pl_h191, pl_h192]
theorem hl_chain_s {X : Int → Int} {LX : Nat} : ∀ S ∈ hl_chain, ck_Ok p2_OL X LX 206 S := ck_S1 pl_h186_s (ck_S1 pl_h187_s (ck_S1 pl_h188_s (ck_S1 pl_h189_s (ck_S1 pl_h190_s (ck_S1 pl_h191_s (ck_S1 pl_h192_s ck_S0))))))
theorem hl_chain_c : hl_chain.all (bc_chk p2_OL 246 1 1 true true 0 1 6 226 5) = true := by decide +kernel
theorem hl_chain_v : bc_cov 60 [(-2147483648, 2147483647), (-2147483648, 2147483647), (-2147483648, 2147483647)] (hl_chain.map bc_box) = true := by decide +kernel
def hm_chain : List ck_Sum := [p2_s1529, p2_s1530, p2_s1531, p2_s1532, p2_s1536, p2_s1538, p2_s1540]
theorem hm_chain_s {X : Int → Int} {LX : Nat} : ∀ S ∈ hm_chain, ck_Ok p2_O X LX 354 S := ck_S1 p2_s1529_s (ck_S1 p2_s1530_s (ck_S1 p2_s1531_s (ck_S1 p2_s1532_s (ck_S1 p2_s1536_s (ck_S1 p2_s1538_s (ck_S1 p2_s1540_s ck_S0))))))
theorem hm_chain_c : hm_chain.all (bc_chk p2_O 100003 0 226 false true 0 226 5 1 6) = true := by decide +kernel
theorem hm_chain_v : bc_cov 60 [(-2147483648, 2147483647), (-2147483648, 2147483647), (-2147483648, 2147483647)] (hm_chain.map bc_box) = true := by decide +kernel
def hx_reached : List ck_Sum := [p2_h193, p2_h194, p2_h195, p2_h196, p2_h197]
theorem hx_reached_s {X : Int → Int} {LX : Nat} : ∀ S ∈ hx_reached, ck_Ok p2_O X LX 210 S := ck_S1 p2_h193_s (ck_S1 p2_h194_s (ck_S1 p2_h195_s (ck_S1 p2_h196_s (ck_S1 p2_h197_s ck_S0))))
theorem hx_reached_c : hx_reached.all (bc_chk p2_O 0 0 1 true true 0 1 6 226 5) = true := by decide +kernel
theorem hx_reached_v : bc_cov 60 [(-2147483648, 2147483647), (-2147483648, 2147483647)] (hx_reached.map bc_box) = true := by decide +kernel
def hl_reached : List ck_Sum := [pl_h193, pl_h194, pl_h195, pl_h196, pl_h197]
theorem hl_reached_s {X : Int → Int} {LX : Nat} : ∀ S ∈ hl_reached, ck_Ok p2_OL X LX 210 S := ck_S1 pl_h193_s (ck_S1 pl_h194_s (ck_S1 pl_h195_s (ck_S1 pl_h196_s (ck_S1 pl_h197_s ck_S0))))
theorem hl_reached_c : hl_reached.all (bc_chk p2_OL 246 1 1 true true 0 1 6 226 5) = true := by decide +kernel
theorem hl_reached_v : bc_cov 60 [(-2147483648, 2147483647), (-2147483648, 2147483647)] (hl_reached.map bc_box) = true := by decide +kernel
def hm_reached : List ck_Sum := [p2_s1549, p2_s1550, p2_s1551, p2_s1552, p2_s1553]
theorem hm_reached_s {X : Int → Int} {LX : Nat} : ∀ S ∈ hm_reached, ck_Ok p2_O X LX 356 S := ck_S1 p2_s1549_s (ck_S1 p2_s1550_s (ck_S1 p2_s1551_s (ck_S1 p2_s1552_s (ck_S1 p2_s1553_s ck_S0))))
theorem hm_reached_c : hm_reached.all (bc_chk p2_O 100003 0 226 false true 0 226 5 1 6) = true := by decide +kernel
theorem hm_reached_v : bc_cov 60 [(-2147483648, 2147483647), (-2147483648, 2147483647)] (hm_reached.map bc_box) = true := by decide +kernel
def hx_thieves : List ck_Sum := [p2_h198, p2_h199, p2_h200]
theorem hx_thieves_s {X : Int → Int} {LX : Nat} : ∀ S ∈ hx_thieves, ck_Ok p2_O X LX 212 S := ck_S1 p2_h198_s (ck_S1 p2_h199_s (ck_S1 p2_h200_s ck_S0))
theorem hx_thieves_c : hx_thieves.all (bc_chk p2_O 0 0 1 true true 0 1 6 226 5) = true := by decide +kernel
theorem hx_thieves_v : bc_cov 60 [(-2147483648, 2147483647), (0, 1)] (hx_thieves.map bc_box) = true := by decide +kernel
def hl_thieves : List ck_Sum := [pl_h198, pl_h199, pl_h200]
theorem hl_thieves_s {X : Int → Int} {LX : Nat} : ∀ S ∈ hl_thieves, ck_Ok p2_OL X LX 212 S := ck_S1 pl_h198_s (ck_S1 pl_h199_s (ck_S1 pl_h200_s ck_S0))
theorem hl_thieves_c : hl_thieves.all (bc_chk p2_OL 246 1 1 true true 0 1 6 226 5) = true := by decide +kernel
theorem hl_thieves_v : bc_cov 60 [(-2147483648, 2147483647), (0, 1)] (hl_thieves.map bc_box) = true := by decide +kernel
def hm_thieves : List ck_Sum := [p2_s1571, p2_s1573, p2_s1582]
theorem hm_thieves_s {X : Int → Int} {LX : Nat} : ∀ S ∈ hm_thieves, ck_Ok p2_O X LX 357 S := ck_S1 p2_s1571_s (ck_S1 p2_s1573_s (ck_S1 p2_s1582_s ck_S0))
theorem hm_thieves_c : hm_thieves.all (bc_chk p2_O 100003 0 226 false true 0 226 5 1 6) = true := by decide +kernel
theorem hm_thieves_v : bc_cov 60 [(-2147483648, 2147483647), (0, 1)] (hm_thieves.map bc_box) = true := by decide +kernel
def hx_watchman : List ck_Sum := [p2_h201, p2_h202, p2_h203]
theorem hx_watchman_s {X : Int → Int} {LX : Nat} : ∀ S ∈ hx_watchman, ck_Ok p2_O X LX 217 S := ck_S1 p2_h201_s (ck_S1 p2_h202_s (ck_S1 p2_h203_s ck_S0))
theorem hx_watchman_c : hx_watchman.all (bc_chk p2_O 0 0 1 true true 0 1 6 226 5) = true := by decide +kernel
theorem hx_watchman_v : bc_cov 60 [(-2147483648, 2147483647), (0, 1)] (hx_watchman.map bc_box) = true := by decide +kernel
def hl_watchman : List ck_Sum := [pl_h201, pl_h202, pl_h203]
theorem hl_watchman_s {X : Int → Int} {LX : Nat} : ∀ S ∈ hl_watchman, ck_Ok p2_OL X LX 217 S := ck_S1 pl_h201_s (ck_S1 pl_h202_s (ck_S1 pl_h203_s ck_S0))
theorem hl_watchman_c : hl_watchman.all (bc_chk p2_OL 246 1 1 true true 0 1 6 226 5) = true := by decide +kernel
theorem hl_watchman_v : bc_cov 60 [(-2147483648, 2147483647), (0, 1)] (hl_watchman.map bc_box) = true := by decide +kernel
def hm_watchman : List ck_Sum := [p2_s1588, p2_s1589, p2_s1590]
theorem hm_watchman_s {X : Int → Int} {LX : Nat} : ∀ S ∈ hm_watchman, ck_Ok p2_O X LX 359 S := ck_S1 p2_s1588_s (ck_S1 p2_s1589_s (ck_S1 p2_s1590_s ck_S0))
theorem hm_watchman_c : hm_watchman.all (bc_chk p2_O 100003 0 226 false true 0 226 5 1 6) = true := by decide +kernel
theorem hm_watchman_v : bc_cov 60 [(-2147483648, 2147483647), (0, 1)] (hm_watchman.map bc_box) = true := by decide +kernel
def hx_meeting : List ck_Sum := [p2_h204, p2_h205, p2_h206, p2_h207, p2_h208]
theorem hx_meeting_s {X : Int → Int} {LX : Nat} : ∀ S ∈ hx_meeting, ck_Ok p2_O X LX 220 S := ck_S1 p2_h204_s (ck_S1 p2_h205_s (ck_S1 p2_h206_s (ck_S1 p2_h207_s (ck_S1 p2_h208_s ck_S0))))
theorem hx_meeting_c : hx_meeting.all (bc_chk p2_O 0 0 1 true true 0 1 6 226 5) = true := by decide +kernel
theorem hx_meeting_v : bc_cov 60 [(-2147483648, 2147483647), (-2147483648, 2147483647)] (hx_meeting.map bc_box) = true := by decide +kernel
def hl_meeting : List ck_Sum := [pl_h204, pl_h205, pl_h206, pl_h207, pl_h208]
theorem hl_meeting_s {X : Int → Int} {LX : Nat} : ∀ S ∈ hl_meeting, ck_Ok p2_OL X LX 220 S := ck_S1 pl_h204_s (ck_S1 pl_h205_s (ck_S1 pl_h206_s (ck_S1 pl_h207_s (ck_S1 pl_h208_s ck_S0))))
theorem hl_meeting_c : hl_meeting.all (bc_chk p2_OL 246 1 1 true true 0 1 6 226 5) = true := by decide +kernel
theorem hl_meeting_v : bc_cov 60 [(-2147483648, 2147483647), (-2147483648, 2147483647)] (hl_meeting.map bc_box) = true := by decide +kernel
def hm_meeting : List ck_Sum := [p2_s1598, p2_s1599, p2_s1600, p2_s1601, p2_s1602]
theorem hm_meeting_s {X : Int → Int} {LX : Nat} : ∀ S ∈ hm_meeting, ck_Ok p2_O X LX 360 S := ck_S1 p2_s1598_s (ck_S1 p2_s1599_s (ck_S1 p2_s1600_s (ck_S1 p2_s1601_s (ck_S1 p2_s1602_s ck_S0))))
theorem hm_meeting_c : hm_meeting.all (bc_chk p2_O 100003 0 226 false true 0 226 5 1 6) = true := by decide +kernel
theorem hm_meeting_v : bc_cov 60 [(-2147483648, 2147483647), (-2147483648, 2147483647)] (hm_meeting.map bc_box) = true := by decide +kernel
def hx_outs : List ck_Sum := [p2_h209, p2_h210, p2_h211]
theorem hx_outs_s {X : Int → Int} {LX : Nat} : ∀ S ∈ hx_outs, ck_Ok p2_O X LX 222 S := ck_S1 p2_h209_s (ck_S1 p2_h210_s (ck_S1 p2_h211_s ck_S0))
theorem hx_outs_c : hx_outs.all (bc_chk p2_O 0 0 1 true true 0 1 6 226 5) = true := by decide +kernel
theorem hx_outs_v : bc_cov 60 [(-2147483648, 2147483647)] (hx_outs.map bc_box) = true := by decide +kernel
def hl_outs : List ck_Sum := [pl_h209, pl_h210, pl_h211]
theorem hl_outs_s {X : Int → Int} {LX : Nat} : ∀ S ∈ hl_outs, ck_Ok p2_OL X LX 222 S := ck_S1 pl_h209_s (ck_S1 pl_h210_s (ck_S1 pl_h211_s ck_S0))
theorem hl_outs_c : hl_outs.all (bc_chk p2_OL 246 1 1 true true 0 1 6 226 5) = true := by decide +kernel
theorem hl_outs_v : bc_cov 60 [(-2147483648, 2147483647)] (hl_outs.map bc_box) = true := by decide +kernel
def hm_outs : List ck_Sum := [p2_s1607, p2_s1608, p2_s1609]
theorem hm_outs_s {X : Int → Int} {LX : Nat} : ∀ S ∈ hm_outs, ck_Ok p2_O X LX 361 S := ck_S1 p2_s1607_s (ck_S1 p2_s1608_s (ck_S1 p2_s1609_s ck_S0))
theorem hm_outs_c : hm_outs.all (bc_chk p2_O 100003 0 226 false true 0 226 5 1 6) = true := by decide +kernel
theorem hm_outs_v : bc_cov 60 [(-2147483648, 2147483647)] (hm_outs.map bc_box) = true := by decide +kernel
def hx_order : List ck_Sum := [p2_s1611]
theorem hx_order_s {X : Int → Int} {LX : Nat} : ∀ S ∈ hx_order, ck_Ok p2_O X LX 52 S := ck_S1 p2_s1611_s ck_S0
theorem hx_order_c : hx_order.all (bc_chk p2_O 0 0 1 false true 0 1 6 226 5) = true := by decide +kernel
theorem hx_order_v : bc_cov 60 [(-2147483648, 2147483647)] (hx_order.map bc_box) = true := by decide +kernel
def hl_order : List ck_Sum := [pl_s852]
theorem hl_order_s {X : Int → Int} {LX : Nat} : ∀ S ∈ hl_order, ck_Ok p2_OL X LX 52 S := ck_S1 pl_s852_s ck_S0
theorem hl_order_c : hl_order.all (bc_chk p2_OL 246 1 1 false true 0 1 6 226 5) = true := by decide +kernel
theorem hl_order_v : bc_cov 60 [(-2147483648, 2147483647)] (hl_order.map bc_box) = true := by decide +kernel
def hm_order : List ck_Sum := [p2_s1612]
theorem hm_order_s {X : Int → Int} {LX : Nat} : ∀ S ∈ hm_order, ck_Ok p2_O X LX 362 S := ck_S1 p2_s1612_s ck_S0
theorem hm_order_c : hm_order.all (bc_chk p2_O 100003 0 226 false true 0 226 5 1 6) = true := by decide +kernel
theorem hm_order_v : bc_cov 60 [(-2147483648, 2147483647)] (hm_order.map bc_box) = true := by decide +kernel
def hx_streams : List ck_Sum := [p2_h212, p2_h213, p2_h214]
theorem hx_streams_s {X : Int → Int} {LX : Nat} : ∀ S ∈ hx_streams, ck_Ok p2_O X LX 224 S := ck_S1 p2_h212_s (ck_S1 p2_h213_s (ck_S1 p2_h214_s ck_S0))
theorem hx_streams_c : hx_streams.all (bc_chk p2_O 0 0 1 true true 0 1 6 226 5) = true := by decide +kernel
theorem hx_streams_v : bc_cov 60 [(-2147483648, 2147483647), (0, 1)] (hx_streams.map bc_box) = true := by decide +kernel
def hl_streams : List ck_Sum := [pl_h212, pl_h213, pl_h214]
theorem hl_streams_s {X : Int → Int} {LX : Nat} : ∀ S ∈ hl_streams, ck_Ok p2_OL X LX 224 S := ck_S1 pl_h212_s (ck_S1 pl_h213_s (ck_S1 pl_h214_s ck_S0))
theorem hl_streams_c : hl_streams.all (bc_chk p2_OL 246 1 1 true true 0 1 6 226 5) = true := by decide +kernel
theorem hl_streams_v : bc_cov 60 [(-2147483648, 2147483647), (0, 1)] (hl_streams.map bc_box) = true := by decide +kernel
def hm_streams : List ck_Sum := [p2_s1616, p2_s1617, p2_s1618]
theorem hm_streams_s {X : Int → Int} {LX : Nat} : ∀ S ∈ hm_streams, ck_Ok p2_O X LX 363 S := ck_S1 p2_s1616_s (ck_S1 p2_s1617_s (ck_S1 p2_s1618_s ck_S0))
theorem hm_streams_c : hm_streams.all (bc_chk p2_O 100003 0 226 false true 0 226 5 1 6) = true := by decide +kernel
theorem hm_streams_v : bc_cov 60 [(-2147483648, 2147483647), (0, 1)] (hm_streams.map bc_box) = true := by decide +kernel
def hx_range : List ck_Sum := [p2_h215, p2_h216, p2_h217, p2_h218, p2_h219]
theorem hx_range_s {X : Int → Int} {LX : Nat} : ∀ S ∈ hx_range, ck_Ok p2_O X LX 226 S := ck_S1 p2_h215_s (ck_S1 p2_h216_s (ck_S1 p2_h217_s (ck_S1 p2_h218_s (ck_S1 p2_h219_s ck_S0))))
theorem hx_range_c : hx_range.all (bc_chk p2_O 0 0 1 true true 0 1 6 226 5) = true := by decide +kernel
theorem hx_range_v : bc_cov 60 [(-2147483648, 2147483647), (-2147483648, 2147483647)] (hx_range.map bc_box) = true := by decide +kernel
def hl_range : List ck_Sum := [pl_h215, pl_h216, pl_h217, pl_h218, pl_h219]
theorem hl_range_s {X : Int → Int} {LX : Nat} : ∀ S ∈ hl_range, ck_Ok p2_OL X LX 226 S := ck_S1 pl_h215_s (ck_S1 pl_h216_s (ck_S1 pl_h217_s (ck_S1 pl_h218_s (ck_S1 pl_h219_s ck_S0))))
theorem hl_range_c : hl_range.all (bc_chk p2_OL 246 1 1 true true 0 1 6 226 5) = true := by decide +kernel
theorem hl_range_v : bc_cov 60 [(-2147483648, 2147483647), (-2147483648, 2147483647)] (hl_range.map bc_box) = true := by decide +kernel
def hm_range : List ck_Sum := [p2_s1624, p2_s1625, p2_s1626, p2_s1627, p2_s1628]
theorem hm_range_s {X : Int → Int} {LX : Nat} : ∀ S ∈ hm_range, ck_Ok p2_O X LX 364 S := ck_S1 p2_s1624_s (ck_S1 p2_s1625_s (ck_S1 p2_s1626_s (ck_S1 p2_s1627_s (ck_S1 p2_s1628_s ck_S0))))
theorem hm_range_c : hm_range.all (bc_chk p2_O 100003 0 226 false true 0 226 5 1 6) = true := by decide +kernel
theorem hm_range_v : bc_cov 60 [(-2147483648, 2147483647), (-2147483648, 2147483647)] (hm_range.map bc_box) = true := by decide +kernel
def hx_swiftest : List ck_Sum := [p2_h220, p2_h221, p2_h222, p2_h223, p2_h224]
theorem hx_swiftest_s {X : Int → Int} {LX : Nat} : ∀ S ∈ hx_swiftest, ck_Ok p2_O X LX 228 S := ck_S1 p2_h220_s (ck_S1 p2_h221_s (ck_S1 p2_h222_s (ck_S1 p2_h223_s (ck_S1 p2_h224_s ck_S0))))
theorem hx_swiftest_c : hx_swiftest.all (bc_chk p2_O 0 0 1 true true 0 1 6 226 5) = true := by decide +kernel
theorem hx_swiftest_v : bc_cov 60 [(-2147483648, 2147483647), (-2147483648, 2147483647)] (hx_swiftest.map bc_box) = true := by decide +kernel
def hl_swiftest : List ck_Sum := [pl_h220, pl_h221, pl_h222, pl_h223, pl_h224]
theorem hl_swiftest_s {X : Int → Int} {LX : Nat} : ∀ S ∈ hl_swiftest, ck_Ok p2_OL X LX 228 S := ck_S1 pl_h220_s (ck_S1 pl_h221_s (ck_S1 pl_h222_s (ck_S1 pl_h223_s (ck_S1 pl_h224_s ck_S0))))
theorem hl_swiftest_c : hl_swiftest.all (bc_chk p2_OL 246 1 1 true true 0 1 6 226 5) = true := by decide +kernel
theorem hl_swiftest_v : bc_cov 60 [(-2147483648, 2147483647), (-2147483648, 2147483647)] (hl_swiftest.map bc_box) = true := by decide +kernel
def hm_swiftest : List ck_Sum := [p2_s1634, p2_s1635, p2_s1636, p2_s1637, p2_s1638]
theorem hm_swiftest_s {X : Int → Int} {LX : Nat} : ∀ S ∈ hm_swiftest, ck_Ok p2_O X LX 365 S := ck_S1 p2_s1634_s (ck_S1 p2_s1635_s (ck_S1 p2_s1636_s (ck_S1 p2_s1637_s (ck_S1 p2_s1638_s ck_S0))))
theorem hm_swiftest_c : hm_swiftest.all (bc_chk p2_O 100003 0 226 false true 0 226 5 1 6) = true := by decide +kernel
theorem hm_swiftest_v : bc_cov 60 [(-2147483648, 2147483647), (-2147483648, 2147483647)] (hm_swiftest.map bc_box) = true := by decide +kernel
def hx_bare : List ck_Sum := [p2_h225, p2_h226, p2_h227]
theorem hx_bare_s {X : Int → Int} {LX : Nat} : ∀ S ∈ hx_bare, ck_Ok p2_O X LX 230 S := ck_S1 p2_h225_s (ck_S1 p2_h226_s (ck_S1 p2_h227_s ck_S0))
theorem hx_bare_c : hx_bare.all (bc_chk p2_O 0 0 1 true true 0 1 6 226 5) = true := by decide +kernel
theorem hx_bare_v : bc_cov 60 [(-2147483648, 2147483647)] (hx_bare.map bc_box) = true := by decide +kernel
def hl_bare : List ck_Sum := [pl_h225, pl_h226, pl_h227]
theorem hl_bare_s {X : Int → Int} {LX : Nat} : ∀ S ∈ hl_bare, ck_Ok p2_OL X LX 230 S := ck_S1 pl_h225_s (ck_S1 pl_h226_s (ck_S1 pl_h227_s ck_S0))
theorem hl_bare_c : hl_bare.all (bc_chk p2_OL 246 1 1 true true 0 1 6 226 5) = true := by decide +kernel
theorem hl_bare_v : bc_cov 60 [(-2147483648, 2147483647)] (hl_bare.map bc_box) = true := by decide +kernel
def hm_bare : List ck_Sum := [p2_s1642, p2_s1643, p2_s1644]
theorem hm_bare_s {X : Int → Int} {LX : Nat} : ∀ S ∈ hm_bare, ck_Ok p2_O X LX 366 S := ck_S1 p2_s1642_s (ck_S1 p2_s1643_s (ck_S1 p2_s1644_s ck_S0))
theorem hm_bare_c : hm_bare.all (bc_chk p2_O 100003 0 226 false true 0 226 5 1 6) = true := by decide +kernel
theorem hm_bare_v : bc_cov 60 [(-2147483648, 2147483647)] (hm_bare.map bc_box) = true := by decide +kernel
def hx_log : List ck_Sum := [p2_h228, p2_h229, p2_h230, p2_h231, p2_h232]
theorem hx_log_s {X : Int → Int} {LX : Nat} : ∀ S ∈ hx_log, ck_Ok p2_O X LX 232 S := ck_S1 p2_h228_s (ck_S1 p2_h229_s (ck_S1 p2_h230_s (ck_S1 p2_h231_s (ck_S1 p2_h232_s ck_S0))))
theorem hx_log_c : hx_log.all (bc_chk p2_O 0 0 1 true true 0 1 6 226 5) = true := by decide +kernel
theorem hx_log_v : bc_cov 60 [(-2147483648, 2147483647), (-2147483648, 2147483647)] (hx_log.map bc_box) = true := by decide +kernel
def hl_log : List ck_Sum := [pl_h228, pl_h229, pl_h230, pl_h231, pl_h232]
theorem hl_log_s {X : Int → Int} {LX : Nat} : ∀ S ∈ hl_log, ck_Ok p2_OL X LX 232 S := ck_S1 pl_h228_s (ck_S1 pl_h229_s (ck_S1 pl_h230_s (ck_S1 pl_h231_s (ck_S1 pl_h232_s ck_S0))))
theorem hl_log_c : hl_log.all (bc_chk p2_OL 246 1 1 true true 0 1 6 226 5) = true := by decide +kernel
theorem hl_log_v : bc_cov 60 [(-2147483648, 2147483647), (-2147483648, 2147483647)] (hl_log.map bc_box) = true := by decide +kernel
def hm_log : List ck_Sum := [p2_s1652, p2_s1653, p2_s1654, p2_s1655, p2_s1656]
theorem hm_log_s {X : Int → Int} {LX : Nat} : ∀ S ∈ hm_log, ck_Ok p2_O X LX 367 S := ck_S1 p2_s1652_s (ck_S1 p2_s1653_s (ck_S1 p2_s1654_s (ck_S1 p2_s1655_s (ck_S1 p2_s1656_s ck_S0))))
theorem hm_log_c : hm_log.all (bc_chk p2_O 100003 0 226 false true 0 226 5 1 6) = true := by decide +kernel
theorem hm_log_v : bc_cov 60 [(-2147483648, 2147483647), (-2147483648, 2147483647)] (hm_log.map bc_box) = true := by decide +kernel
def hx_undo : List ck_Sum := [p2_s1743]
theorem hx_undo_s {X : Int → Int} {LX : Nat} : ∀ S ∈ hx_undo, ck_Ok p2_O X LX 54 S := ck_S1 p2_s1743_s ck_S0
theorem hx_undo_c : hx_undo.all (bc_chk p2_O 0 0 1 false true 0 1 6 226 5) = true := by decide +kernel
theorem hx_undo_v : bc_cov 60 [] (hx_undo.map bc_box) = true := by decide +kernel
def hl_undo : List ck_Sum := [pl_s961]
theorem hl_undo_s {X : Int → Int} {LX : Nat} : ∀ S ∈ hl_undo, ck_Ok p2_OL X LX 54 S := ck_S1 pl_s961_s ck_S0
theorem hl_undo_c : hl_undo.all (bc_chk p2_OL 246 1 1 false true 0 1 6 226 5) = true := by decide +kernel
theorem hl_undo_v : bc_cov 60 [] (hl_undo.map bc_box) = true := by decide +kernel
def hm_undo : List ck_Sum := [p2_s1744]
theorem hm_undo_s {X : Int → Int} {LX : Nat} : ∀ S ∈ hm_undo, ck_Ok p2_O X LX 238 S := ck_S1 p2_s1744_s ck_S0
theorem hm_undo_c : hm_undo.all (bc_chk p2_O 100003 0 226 false true 0 226 5 1 6) = true := by decide +kernel
theorem hm_undo_v : bc_cov 60 [] (hm_undo.map bc_box) = true := by decide +kernel
def hx_image : List ck_Sum := [p2_s1752]
theorem hx_image_s {X : Int → Int} {LX : Nat} : ∀ S ∈ hx_image, ck_Ok p2_O X LX 59 S := ck_S1 p2_s1752_s ck_S0
theorem hx_image_c : hx_image.all (bc_chk p2_O 0 0 1 false false 1 1 6 226 5) = true := by decide +kernel
theorem hx_image_v : bc_cov 60 [] (hx_image.map bc_box) = true := by decide +kernel
def hl_image : List ck_Sum := [pl_s969]
theorem hl_image_s {X : Int → Int} {LX : Nat} : ∀ S ∈ hl_image, ck_Ok p2_OL X LX 59 S := ck_S1 pl_s969_s ck_S0
theorem hl_image_c : hl_image.all (bc_chk p2_OL 246 1 1 false false 1 1 6 226 5) = true := by decide +kernel
theorem hl_image_v : bc_cov 60 [] (hl_image.map bc_box) = true := by decide +kernel
def hm_image : List ck_Sum := [p2_s1753]
theorem hm_image_s {X : Int → Int} {LX : Nat} : ∀ S ∈ hm_image, ck_Ok p2_O X LX 236 S := ck_S1 p2_s1753_s ck_S0
theorem hm_image_c : hm_image.all (bc_chk p2_O 100003 0 226 false false 1 226 5 1 6) = true := by decide +kernel
theorem hm_image_v : bc_cov 60 [] (hm_image.map bc_box) = true := by decide +kernel
def hx_count : List ck_Sum := [p2_s1763, p2_s1768, p2_s1770]
theorem hx_count_s {X : Int → Int} {LX : Nat} : ∀ S ∈ hx_count, ck_Ok p2_O X LX 63 S := ck_S1 p2_s1763_s (ck_S1 p2_s1768_s (ck_S1 p2_s1770_s ck_S0))
theorem hx_count_c : hx_count.all (bc_chk p2_O 0 0 1 false true 0 1 6 226 5) = true := by decide +kernel
theorem hx_count_v : bc_cov 60 [(-2147483648, 2147483647)] (hx_count.map bc_box) = true := by decide +kernel
def hl_count : List ck_Sum := [pl_s978, pl_s983, pl_s985]
theorem hl_count_s {X : Int → Int} {LX : Nat} : ∀ S ∈ hl_count, ck_Ok p2_OL X LX 63 S := ck_S1 pl_s978_s (ck_S1 pl_s983_s (ck_S1 pl_s985_s ck_S0))
theorem hl_count_c : hl_count.all (bc_chk p2_OL 246 1 1 false true 0 1 6 226 5) = true := by decide +kernel
theorem hl_count_v : bc_cov 60 [(-2147483648, 2147483647)] (hl_count.map bc_box) = true := by decide +kernel
def hm_count : List ck_Sum := [p2_s1772, p2_s1778, p2_s1781]
theorem hm_count_s {X : Int → Int} {LX : Nat} : ∀ S ∈ hm_count, ck_Ok p2_O X LX 368 S := ck_S1 p2_s1772_s (ck_S1 p2_s1778_s (ck_S1 p2_s1781_s ck_S0))
theorem hm_count_c : hm_count.all (bc_chk p2_O 100003 0 226 false true 0 226 5 1 6) = true := by decide +kernel
theorem hm_count_v : bc_cov 60 [(-2147483648, 2147483647)] (hm_count.map bc_box) = true := by decide +kernel
