/-! EVERY CALL ENDS, whatever was done before (laid by wip/am/p2g.py). -/
set_option maxRecDepth 100000 in
/-- GlacierMailModel.passes -/
def p2_s3058 : ck_Sum := ((2, 0, 0), 245, [.inr (.inr (.inl 226)), .inl ((-2147483648), (-1), [])], ([], [], [(227, 4, 4, (0, 24, [(22, 0)]))]), ([(226, 0, 0)], []), [(.inr (some (.inl (ck_one 0))), 245, ([], [], [(226, 0, 0, ck_one 1)]))])
set_option maxRecDepth 100000 in
theorem p2_s3058_e : ck_ok p2_O none [] [(309, [p2_s612]), (282, [p2_s268])] 334 [] 94 p2_s3058 = true := by decide +kernel
theorem p2_s3058_s {X : Int → Int} {LX : Nat} : ck_Ok p2_O X LX 334 p2_s3058 := ck_ok_s ⟨p2_nmu, ck_E1 (ck_S1 p2_s612_s ck_S0) (ck_E1 (ck_S1 p2_s268_s ck_S0) ck_E0)⟩ ck_X0 ck_l0 p2_s3058_e
set_option maxRecDepth 100000 in
/-- GlacierMailModel.passes -/
def p2_s3059 : ck_Sum := ((2, 0, 0), 245, [.inr (.inr (.inl 226)), .inl (24, 2147483647, [])], ([], [], [(227, 4, 4, (0, 24, [(22, 0)]))]), ([(226, 0, 0)], []), [(.inr (some (.inl (ck_one 0))), 245, ([], [], [(226, 0, 0, ck_one 1)]))])
set_option maxRecDepth 100000 in
theorem p2_s3059_e : ck_ok p2_O none [] [(309, [p2_s615]), (282, [p2_s268])] 334 [] 94 p2_s3059 = true := by decide +kernel
theorem p2_s3059_s {X : Int → Int} {LX : Nat} : ck_Ok p2_O X LX 334 p2_s3059 := ck_ok_s ⟨p2_nmu, ck_E1 (ck_S1 p2_s615_s ck_S0) (ck_E1 (ck_S1 p2_s268_s ck_S0) ck_E0)⟩ ck_X0 ck_l0 p2_s3059_e
set_option maxRecDepth 100000 in
/-- GlacierMailModel.keepsRows -/
def p2_s3060 : ck_Sum := ((0, 0, 0), 245, [.inr (.inr (.inl 226))], ([], [], []), ([(239, 0, 299)], []), [(.inr none, 245, ([], [], []))])
set_option maxRecDepth 100000 in
theorem p2_s3060_e : ck_ok p2_O none [] [] 335 [(2, [some (.inr (.inr (.inl 226))), some (.inl (0, 300, []))], ([], [], []), 100, .inl 1, true)] 146 p2_s3060 = true := by decide +kernel
theorem p2_s3060_s {X : Int → Int} {LX : Nat} : ck_Ok p2_O X LX 335 p2_s3060 := ck_ok_s ⟨p2_nmu, ck_E0⟩ ck_X0 ck_l0 p2_s3060_e
set_option maxRecDepth 100000 in
/-- GlacierMailModel.isOtherInIce -/
def p2_s3063 : ck_Sum := ((1, 0, 0), 245, [.inr (.inr (.inl 226)), .inl (0, 299, [])], ([], [], []), ([], []), [(.inr (some (.inl (ck_one 0))), 245, ([], [], [])), (.inr (some (.inl (ck_one 1))), 245, ([], [], []))])
set_option maxRecDepth 100000 in
theorem p2_s3063_e : ck_ok p2_O none [] [(259, [p2_s200])] 337 [] 100 p2_s3063 = true := by decide +kernel
theorem p2_s3063_s {X : Int → Int} {LX : Nat} : ck_Ok p2_O X LX 337 p2_s3063 := ck_ok_s ⟨p2_nmu, ck_E1 (ck_S1 p2_s200_s ck_S0) ck_E0⟩ ck_X0 ck_l0 p2_s3063_e
set_option maxRecDepth 100000 in
/-- GlacierMailModel.isOtherInIce -/
def p2_s3064 : ck_Sum := ((1, 0, 0), 245, [.inr (.inr (.inl 226)), .inl (1, 299, [])], ([], [], []), ([], []), [(.inr (some (.inl (ck_one 0))), 245, ([], [], [])), (.inr (some (.inl (ck_one 1))), 245, ([], [], []))])
set_option maxRecDepth 100000 in
theorem p2_s3064_e : ck_ok p2_O none [] [(259, [p2_s200])] 337 [] 100 p2_s3064 = true := by decide +kernel
theorem p2_s3064_s {X : Int → Int} {LX : Nat} : ck_Ok p2_O X LX 337 p2_s3064 := ck_ok_s ⟨p2_nmu, ck_E1 (ck_S1 p2_s200_s ck_S0) ck_E0⟩ ck_X0 ck_l0 p2_s3064_e
set_option maxRecDepth 100000 in
/-- GlacierMailModel.isPassing -/
def p2_s3065 : ck_Sum := ((2, 0, 0), 245, [.inr (.inr (.inl 226)), .inl (0, 299, [])], ([], [], []), ([], []), [(.inr (some (.inl (ck_one 0))), 245, ([], [], [])), (.inr (some (.inl (ck_one 1))), 245, ([], [], []))])
set_option maxRecDepth 100000 in
theorem p2_s3065_e : ck_ok p2_O none [] [(312, [p2_s624]), (337, [p2_s3063, p2_s3064])] 336 [(37, [some (.inr (.inr (.inl 226))), some (.inl (0, 299, [])), some (.inl (1, 300, []))], ([], [], []), 100, .inl 2, true)] 182 p2_s3065 = true := by decide +kernel
theorem p2_s3065_s {X : Int → Int} {LX : Nat} : ck_Ok p2_O X LX 336 p2_s3065 := ck_ok_s ⟨p2_nmu, ck_E1 (ck_S1 p2_s624_s ck_S0) (ck_E1 (ck_S1 p2_s3063_s (ck_S1 p2_s3064_s ck_S0)) ck_E0)⟩ ck_X0 ck_l0 p2_s3065_e
set_option maxRecDepth 100000 in
/-- GlacierMail.writers -/
def p2_s3070 : ck_Sum := ((8, 1, 6), 245, [.inr (.inr (.inl 1)), .inl ((-2147483648), (-1), []), .inl ((-2147483648), 2147483647, []), .inl ((-2147483648), 2147483647, [])], ([], [], []), ([], []), [(.inl 3, 245, ([], [], []))])
set_option maxRecDepth 100000 in
theorem p2_s3070_e : ck_ok p2_O none [] [(132, [p2_s293])] 186 [] 76 p2_s3070 = true := by decide +kernel
theorem p2_s3070_s {X : Int → Int} {LX : Nat} : ck_Ok p2_O X LX 186 p2_s3070 := ck_ok_s ⟨p2_nmu, ck_E1 (ck_S1 p2_s293_s ck_S0) ck_E0⟩ ck_X0 ck_l0 p2_s3070_e
set_option maxRecDepth 100000 in
/-- GlacierMail.writers -/
def p2_s3071 : ck_Sum := ((8, 1, 6), 245, [.inr (.inr (.inl 1)), .inl (6, 2147483647, []), .inl ((-2147483648), 2147483647, []), .inl ((-2147483648), 2147483647, [])], ([], [], []), ([], []), [(.inl 3, 245, ([], [], []))])
set_option maxRecDepth 100000 in
theorem p2_s3071_e : ck_ok p2_O none [] [(132, [p2_s296])] 186 [] 76 p2_s3071 = true := by decide +kernel
theorem p2_s3071_s {X : Int → Int} {LX : Nat} : ck_Ok p2_O X LX 186 p2_s3071 := ck_ok_s ⟨p2_nmu, ck_E1 (ck_S1 p2_s296_s ck_S0) ck_E0⟩ ck_X0 ck_l0 p2_s3071_e
set_option maxRecDepth 100000 in
/-- GlacierMail.needFind -/
def p2_s3072 : ck_Sum := ((7, 1, 6), 245, [.inr (.inr (.inl 1)), .inl ((-2147483648), (-1), []), .inl ((-2147483648), 2147483647, [])], ([], [], []), ([], []), [(.inl 0, 245, ([], [], []))])
set_option maxRecDepth 100000 in
theorem p2_s3072_e : ck_ok p2_O none [] [(129, [p2_s276])] 187 [] 76 p2_s3072 = true := by decide +kernel
theorem p2_s3072_s {X : Int → Int} {LX : Nat} : ck_Ok p2_O X LX 187 p2_s3072 := ck_ok_s ⟨p2_nmu, ck_E1 (ck_S1 p2_s276_s ck_S0) ck_E0⟩ ck_X0 ck_l0 p2_s3072_e
set_option maxRecDepth 100000 in
/-- GlacierMail.writers -/
def p2_s3073 : ck_Sum := ((8, 2, 12), 245, [.inr (.inr (.inl 1)), .inl (0, 5, []), .inl ((-2147483648), (-1), []), .inl ((-2147483648), 2147483647, [])], ([], [], []), ([], []), [(.inl 3, 245, ([], [], [])), (.inl 0, 245, ([], [], []))])
set_option maxRecDepth 100000 in
theorem p2_s3073_e : ck_ok p2_O none [] [(132, [p2_s299]), (187, [p2_s3072])] 186 [] 84 p2_s3073 = true := by decide +kernel
theorem p2_s3073_s {X : Int → Int} {LX : Nat} : ck_Ok p2_O X LX 186 p2_s3073 := ck_ok_s ⟨p2_nmu, ck_E1 (ck_S1 p2_s299_s ck_S0) (ck_E1 (ck_S1 p2_s3072_s ck_S0) ck_E0)⟩ ck_X0 ck_l0 p2_s3073_e
set_option maxRecDepth 100000 in
/-- GlacierMail.needFind -/
def p2_s3074 : ck_Sum := ((7, 1, 6), 245, [.inr (.inr (.inl 1)), .inl (300, 2147483647, []), .inl ((-2147483648), 2147483647, [])], ([], [], []), ([], []), [(.inl 0, 245, ([], [], []))])
set_option maxRecDepth 100000 in
theorem p2_s3074_e : ck_ok p2_O none [] [(129, [p2_s278])] 187 [] 76 p2_s3074 = true := by decide +kernel
theorem p2_s3074_s {X : Int → Int} {LX : Nat} : ck_Ok p2_O X LX 187 p2_s3074 := ck_ok_s ⟨p2_nmu, ck_E1 (ck_S1 p2_s278_s ck_S0) ck_E0⟩ ck_X0 ck_l0 p2_s3074_e
set_option maxRecDepth 100000 in
/-- GlacierMail.writers -/
def p2_s3075 : ck_Sum := ((8, 2, 12), 245, [.inr (.inr (.inl 1)), .inl (0, 5, []), .inl (300, 2147483647, []), .inl ((-2147483648), 2147483647, [])], ([], [], []), ([], []), [(.inl 3, 245, ([], [], [])), (.inl 0, 245, ([], [], []))])
set_option maxRecDepth 100000 in
theorem p2_s3075_e : ck_ok p2_O none [] [(132, [p2_s299]), (187, [p2_s3074])] 186 [] 84 p2_s3075 = true := by decide +kernel
theorem p2_s3075_s {X : Int → Int} {LX : Nat} : ck_Ok p2_O X LX 186 p2_s3075 := ck_ok_s ⟨p2_nmu, ck_E1 (ck_S1 p2_s299_s ck_S0) (ck_E1 (ck_S1 p2_s3074_s ck_S0) ck_E0)⟩ ck_X0 ck_l0 p2_s3075_e
set_option maxRecDepth 100000 in
/-- GlacierMail.needFind -/
def p2_s3076 : ck_Sum := ((6, 1, 6), 245, [.inr (.inr (.inl 1)), .inl (0, 299, []), .inl ((-2147483648), (-1), [])], ([], [], []), ([], []), [(.inl 0, 245, ([], [], []))])
set_option maxRecDepth 100000 in
theorem p2_s3076_e : ck_ok p2_O none [] [(129, [p2_s280])] 187 [] 82 p2_s3076 = true := by decide +kernel
theorem p2_s3076_s {X : Int → Int} {LX : Nat} : ck_Ok p2_O X LX 187 p2_s3076 := ck_ok_s ⟨p2_nmu, ck_E1 (ck_S1 p2_s280_s ck_S0) ck_E0⟩ ck_X0 ck_l0 p2_s3076_e
set_option maxRecDepth 100000 in
/-- GlacierMail.writers -/
def p2_s3077 : ck_Sum := ((8, 2, 12), 245, [.inr (.inr (.inl 1)), .inl (0, 5, []), .inl (0, 299, []), .inl ((-2147483648), (-1), [])], ([], [], []), ([], []), [(.inl 3, 245, ([], [], [])), (.inl 0, 245, ([], [], []))])
set_option maxRecDepth 100000 in
theorem p2_s3077_e : ck_ok p2_O none [] [(132, [p2_s299]), (187, [p2_s3076])] 186 [] 84 p2_s3077 = true := by decide +kernel
theorem p2_s3077_s {X : Int → Int} {LX : Nat} : ck_Ok p2_O X LX 186 p2_s3077 := ck_ok_s ⟨p2_nmu, ck_E1 (ck_S1 p2_s299_s ck_S0) (ck_E1 (ck_S1 p2_s3076_s ck_S0) ck_E0)⟩ ck_X0 ck_l0 p2_s3077_e
set_option maxRecDepth 100000 in
/-- GlacierMail.needFind -/
def p2_s3078 : ck_Sum := ((6, 1, 6), 245, [.inr (.inr (.inl 1)), .inl (0, 299, []), .inl (100, 2147483647, [])], ([], [], []), ([], []), [(.inl 0, 245, ([], [], []))])
set_option maxRecDepth 100000 in
theorem p2_s3078_e : ck_ok p2_O none [] [(129, [p2_s280])] 187 [] 88 p2_s3078 = true := by decide +kernel
theorem p2_s3078_s {X : Int → Int} {LX : Nat} : ck_Ok p2_O X LX 187 p2_s3078 := ck_ok_s ⟨p2_nmu, ck_E1 (ck_S1 p2_s280_s ck_S0) ck_E0⟩ ck_X0 ck_l0 p2_s3078_e
set_option maxRecDepth 100000 in
/-- GlacierMail.writers -/
def p2_s3079 : ck_Sum := ((8, 2, 12), 245, [.inr (.inr (.inl 1)), .inl (0, 5, []), .inl (0, 299, []), .inl (100, 2147483647, [])], ([], [], []), ([], []), [(.inl 3, 245, ([], [], [])), (.inl 0, 245, ([], [], []))])
set_option maxRecDepth 100000 in
theorem p2_s3079_e : ck_ok p2_O none [] [(132, [p2_s299]), (187, [p2_s3078])] 186 [] 84 p2_s3079 = true := by decide +kernel
theorem p2_s3079_s {X : Int → Int} {LX : Nat} : ck_Ok p2_O X LX 186 p2_s3079 := ck_ok_s ⟨p2_nmu, ck_E1 (ck_S1 p2_s299_s ck_S0) (ck_E1 (ck_S1 p2_s3078_s ck_S0) ck_E0)⟩ ck_X0 ck_l0 p2_s3079_e
set_option maxRecDepth 100000 in
/-- GlacierMail.needFind -/
def p2_s3080 : ck_Sum := ((1, 0, 0), 245, [.inr (.inr (.inl 1)), .inl (0, 299, []), .inl (0, 99, [])], ([], [], []), ([], []), [(.inr none, 245, ([], [], []))])
set_option maxRecDepth 100000 in
theorem p2_s3080_e : ck_ok p2_O none [] [(129, [p2_s280])] 187 [] 88 p2_s3080 = true := by decide +kernel
theorem p2_s3080_s {X : Int → Int} {LX : Nat} : ck_Ok p2_O X LX 187 p2_s3080 := ck_ok_s ⟨p2_nmu, ck_E1 (ck_S1 p2_s280_s ck_S0) ck_E0⟩ ck_X0 ck_l0 p2_s3080_e
set_option maxRecDepth 100000 in
/-- GlacierMail.latestWriting -/
def p2_s3087 : ck_Sum := ((4, 0, 0), 245, [.inr (.inr (.inl 1)), .inl (0, 7, []), .inl (0, 5, []), .inl (0, 299, []), .inl (0, 99, [])], ([], [(3, 8, 0)], []), ([(206, 2, 8)], []), [(.inr (some (.inl (ck_one (-1)))), 245, ([], [], [])), (.inr (some (.inl (0, 298, []))), 245, ([], [], [(206, 4, 4, ck_one (-1))]))])
set_option maxRecDepth 100000 in
theorem p2_s3087_e : ck_ok p2_O none [] [(10, [p2_s438]), (170, [p2_s1133]), (30, [p2_s374])] 188 [(23, [some (.inr (.inr (.inl 1))), some (.inl (0, 7, [])), some (.inl (0, 5, [])), some (.inl (0, 299, [])), some (.inl (0, 99, [])), some (.inl ((-1), 298, []))], ([], [(3, 8, 0)], []), 100, .inl 5, false)] 174 p2_s3087 = true := by decide +kernel
theorem p2_s3087_s {X : Int → Int} {LX : Nat} : ck_Ok p2_O X LX 188 p2_s3087 := ck_ok_s ⟨p2_nmu, ck_E1 (ck_S1 p2_s438_s ck_S0) (ck_E1 (ck_S1 p2_s1133_s ck_S0) (ck_E1 (ck_S1 p2_s374_s ck_S0) ck_E0))⟩ ck_X0 ck_l0 p2_s3087_e
set_option maxRecDepth 100000 in
/-- GlacierMail.writers -/
def p2_s3088 : ck_Sum := ((8, 1, 6), 245, [.inr (.inr (.inl 1)), .inl (0, 5, []), .inl (0, 299, []), .inl (0, 99, [])], ([], [(3, 8, 0)], []), ([(206, 2, 8)], []), [(.inl 3, 245, ([], [], [])), (.inr (some (.inl ((-2147483648), 2147483647, []))), 245, ([], [], []))])
set_option maxRecDepth 100000 in
theorem p2_s3088_e : ck_ok p2_O none [] [(132, [p2_s299]), (187, [p2_s3080]), (9, [p2_s348]), (188, [p2_s3087])] 186 [(17, [some (.inr (.inr (.inl 1))), some (.inl (0, 5, [])), some (.inl (0, 299, [])), some (.inl (0, 99, [])), some (.inl ((-2147483648), 2147483647, [])), some (.inl (0, 9, []))], ([], [(3, 8, 0)], []), 100, .inl 5, true)] 182 p2_s3088 = true := by decide +kernel
theorem p2_s3088_s {X : Int → Int} {LX : Nat} : ck_Ok p2_O X LX 186 p2_s3088 := ck_ok_s ⟨p2_nmu, ck_E1 (ck_S1 p2_s299_s ck_S0) (ck_E1 (ck_S1 p2_s3080_s ck_S0) (ck_E1 (ck_S1 p2_s348_s ck_S0) (ck_E1 (ck_S1 p2_s3087_s ck_S0) ck_E0)))⟩ ck_X0 ck_l0 p2_s3088_e
set_option maxRecDepth 100000 in
/-- GlacierMailModel.writers -/
def p2_s3089 : ck_Sum := ((2, 0, 0), 245, [.inr (.inr (.inl 226)), .inl ((-2147483648), (-1), []), .inl ((-2147483648), 2147483647, []), .inl ((-2147483648), 2147483647, [])], ([], [], []), ([(226, 0, 0)], []), [(.inr (some (.inl (ck_one 0))), 245, ([], [], [(226, 0, 0, ck_one 1)]))])
set_option maxRecDepth 100000 in
theorem p2_s3089_e : ck_ok p2_O none [] [(288, [p2_s311]), (282, [p2_s268])] 338 [] 94 p2_s3089 = true := by decide +kernel
theorem p2_s3089_s {X : Int → Int} {LX : Nat} : ck_Ok p2_O X LX 338 p2_s3089 := ck_ok_s ⟨p2_nmu, ck_E1 (ck_S1 p2_s311_s ck_S0) (ck_E1 (ck_S1 p2_s268_s ck_S0) ck_E0)⟩ ck_X0 ck_l0 p2_s3089_e
set_option maxRecDepth 100000 in
/-- GlacierMailModel.writers -/
def p2_s3090 : ck_Sum := ((2, 0, 0), 245, [.inr (.inr (.inl 226)), .inl (6, 2147483647, []), .inl ((-2147483648), 2147483647, []), .inl ((-2147483648), 2147483647, [])], ([], [], []), ([(226, 0, 0)], []), [(.inr (some (.inl (ck_one 0))), 245, ([], [], [(226, 0, 0, ck_one 1)]))])
set_option maxRecDepth 100000 in
theorem p2_s3090_e : ck_ok p2_O none [] [(288, [p2_s314]), (282, [p2_s268])] 338 [] 94 p2_s3090 = true := by decide +kernel
theorem p2_s3090_s {X : Int → Int} {LX : Nat} : ck_Ok p2_O X LX 338 p2_s3090 := ck_ok_s ⟨p2_nmu, ck_E1 (ck_S1 p2_s314_s ck_S0) (ck_E1 (ck_S1 p2_s268_s ck_S0) ck_E0)⟩ ck_X0 ck_l0 p2_s3090_e
set_option maxRecDepth 100000 in
/-- GlacierMailModel.writers -/
def p2_s3091 : ck_Sum := ((2, 0, 0), 245, [.inr (.inr (.inl 226)), .inl (0, 5, []), .inl ((-2147483648), (-1), []), .inl ((-2147483648), 2147483647, [])], ([], [], []), ([(226, 0, 0)], []), [(.inr (some (.inl (ck_one 0))), 245, ([], [], [(226, 0, 0, (1, 2, []))]))])
set_option maxRecDepth 100000 in
theorem p2_s3091_e : ck_ok p2_O none [] [(288, [p2_s317]), (282, [p2_s268, p2_s269, p2_s272]), (285, [p2_s284])] 338 [] 112 p2_s3091 = true := by decide +kernel
theorem p2_s3091_s {X : Int → Int} {LX : Nat} : ck_Ok p2_O X LX 338 p2_s3091 := ck_ok_s ⟨p2_nmu, ck_E1 (ck_S1 p2_s317_s ck_S0) (ck_E1 (ck_S1 p2_s268_s (ck_S1 p2_s269_s (ck_S1 p2_s272_s ck_S0))) (ck_E1 (ck_S1 p2_s284_s ck_S0) ck_E0))⟩ ck_X0 ck_l0 p2_s3091_e
set_option maxRecDepth 100000 in
/-- GlacierMailModel.writers -/
def p2_s3092 : ck_Sum := ((2, 0, 0), 245, [.inr (.inr (.inl 226)), .inl (0, 5, []), .inl (300, 2147483647, []), .inl ((-2147483648), 2147483647, [])], ([], [], []), ([(226, 0, 0)], []), [(.inr (some (.inl (ck_one 0))), 245, ([], [], [(226, 0, 0, (1, 2, []))]))])
set_option maxRecDepth 100000 in
theorem p2_s3092_e : ck_ok p2_O none [] [(288, [p2_s317]), (282, [p2_s268, p2_s269, p2_s272]), (285, [p2_s287])] 338 [] 112 p2_s3092 = true := by decide +kernel
theorem p2_s3092_s {X : Int → Int} {LX : Nat} : ck_Ok p2_O X LX 338 p2_s3092 := ck_ok_s ⟨p2_nmu, ck_E1 (ck_S1 p2_s317_s ck_S0) (ck_E1 (ck_S1 p2_s268_s (ck_S1 p2_s269_s (ck_S1 p2_s272_s ck_S0))) (ck_E1 (ck_S1 p2_s287_s ck_S0) ck_E0))⟩ ck_X0 ck_l0 p2_s3092_e
set_option maxRecDepth 100000 in
/-- GlacierMailModel.in -/
def p2_s3093 : ck_Sum := ((0, 0, 0), 245, [.inl ((-2147483648), (-1), []), .inl (ck_one 0), .inl (ck_one 99)], ([], [], []), ([], []), [(.inr (some (.inl (ck_one 0))), 245, ([], [], []))])
set_option maxRecDepth 100000 in
theorem p2_s3093_e : ck_ok p2_O none [] [] 286 [] 80 p2_s3093 = true := by decide +kernel
theorem p2_s3093_s {X : Int → Int} {LX : Nat} : ck_Ok p2_O X LX 286 p2_s3093 := ck_ok_s ⟨p2_nmu, ck_E0⟩ ck_X0 ck_l0 p2_s3093_e
set_option maxRecDepth 100000 in
/-- GlacierMailModel.writers -/
def p2_s3094 : ck_Sum := ((2, 0, 0), 245, [.inr (.inr (.inl 226)), .inl (0, 5, []), .inl (0, 299, []), .inl ((-2147483648), (-1), [])], ([], [], []), ([(226, 0, 0)], []), [(.inr (some (.inl (ck_one 0))), 245, ([], [], [(226, 0, 0, (1, 2, []))]))])
set_option maxRecDepth 100000 in
theorem p2_s3094_e : ck_ok p2_O none [] [(288, [p2_s317]), (282, [p2_s268, p2_s269, p2_s272]), (285, [p2_s290]), (286, [p2_s3093])] 338 [] 122 p2_s3094 = true := by decide +kernel
theorem p2_s3094_s {X : Int → Int} {LX : Nat} : ck_Ok p2_O X LX 338 p2_s3094 := ck_ok_s ⟨p2_nmu, ck_E1 (ck_S1 p2_s317_s ck_S0) (ck_E1 (ck_S1 p2_s268_s (ck_S1 p2_s269_s (ck_S1 p2_s272_s ck_S0))) (ck_E1 (ck_S1 p2_s290_s ck_S0) (ck_E1 (ck_S1 p2_s3093_s ck_S0) ck_E0)))⟩ ck_X0 ck_l0 p2_s3094_e
set_option maxRecDepth 100000 in
/-- GlacierMailModel.in -/
def p2_s3095 : ck_Sum := ((0, 0, 0), 245, [.inl (100, 2147483647, []), .inl (ck_one 0), .inl (ck_one 99)], ([], [], []), ([], []), [(.inr (some (.inl (ck_one 0))), 245, ([], [], []))])
set_option maxRecDepth 100000 in
theorem p2_s3095_e : ck_ok p2_O none [] [] 286 [] 86 p2_s3095 = true := by decide +kernel
theorem p2_s3095_s {X : Int → Int} {LX : Nat} : ck_Ok p2_O X LX 286 p2_s3095 := ck_ok_s ⟨p2_nmu, ck_E0⟩ ck_X0 ck_l0 p2_s3095_e
set_option maxRecDepth 100000 in
/-- GlacierMailModel.writers -/
def p2_s3096 : ck_Sum := ((2, 0, 0), 245, [.inr (.inr (.inl 226)), .inl (0, 5, []), .inl (0, 299, []), .inl (100, 2147483647, [])], ([], [], []), ([(226, 0, 0)], []), [(.inr (some (.inl (ck_one 0))), 245, ([], [], [(226, 0, 0, (1, 2, []))]))])
set_option maxRecDepth 100000 in
theorem p2_s3096_e : ck_ok p2_O none [] [(288, [p2_s317]), (282, [p2_s268, p2_s269, p2_s272]), (285, [p2_s290]), (286, [p2_s3095])] 338 [] 122 p2_s3096 = true := by decide +kernel
theorem p2_s3096_s {X : Int → Int} {LX : Nat} : ck_Ok p2_O X LX 338 p2_s3096 := ck_ok_s ⟨p2_nmu, ck_E1 (ck_S1 p2_s317_s ck_S0) (ck_E1 (ck_S1 p2_s268_s (ck_S1 p2_s269_s (ck_S1 p2_s272_s ck_S0))) (ck_E1 (ck_S1 p2_s290_s ck_S0) (ck_E1 (ck_S1 p2_s3095_s ck_S0) ck_E0)))⟩ ck_X0 ck_l0 p2_s3096_e
set_option maxRecDepth 100000 in
/-- GlacierMailModel.in -/
def p2_s3097 : ck_Sum := ((0, 0, 0), 245, [.inl (0, 99, []), .inl (ck_one 0), .inl (ck_one 99)], ([], [], []), ([], []), [(.inr (some (.inl (ck_one 1))), 245, ([], [], []))])
set_option maxRecDepth 100000 in
theorem p2_s3097_e : ck_ok p2_O none [] [] 286 [] 88 p2_s3097 = true := by decide +kernel
theorem p2_s3097_s {X : Int → Int} {LX : Nat} : ck_Ok p2_O X LX 286 p2_s3097 := ck_ok_s ⟨p2_nmu, ck_E0⟩ ck_X0 ck_l0 p2_s3097_e
set_option maxRecDepth 100000 in
/-- GlacierMail.wrote -/
def p2_s3107 : ck_Sum := ((8, 1, 6), 245, [.inr (.inr (.inl 1)), .inl ((-2147483648), (-1), []), .inl ((-2147483648), 2147483647, []), .inl ((-2147483648), 2147483647, []), .inl ((-2147483648), 2147483647, [])], ([], [], []), ([], []), [(.inl 3, 245, ([], [], []))])
set_option maxRecDepth 100000 in
theorem p2_s3107_e : ck_ok p2_O none [] [(139, [p2_s350])] 190 [] 76 p2_s3107 = true := by decide +kernel
theorem p2_s3107_s {X : Int → Int} {LX : Nat} : ck_Ok p2_O X LX 190 p2_s3107 := ck_ok_s ⟨p2_nmu, ck_E1 (ck_S1 p2_s350_s ck_S0) ck_E0⟩ ck_X0 ck_l0 p2_s3107_e
set_option maxRecDepth 100000 in
/-- GlacierMail.wrote -/
def p2_s3108 : ck_Sum := ((8, 1, 6), 245, [.inr (.inr (.inl 1)), .inl (8, 2147483647, []), .inl ((-2147483648), 2147483647, []), .inl ((-2147483648), 2147483647, []), .inl ((-2147483648), 2147483647, [])], ([], [], []), ([], []), [(.inl 3, 245, ([], [], []))])
set_option maxRecDepth 100000 in
theorem p2_s3108_e : ck_ok p2_O none [] [(139, [p2_s353])] 190 [] 76 p2_s3108 = true := by decide +kernel
theorem p2_s3108_s {X : Int → Int} {LX : Nat} : ck_Ok p2_O X LX 190 p2_s3108 := ck_ok_s ⟨p2_nmu, ck_E1 (ck_S1 p2_s353_s ck_S0) ck_E0⟩ ck_X0 ck_l0 p2_s3108_e
set_option maxRecDepth 100000 in
/-- GlacierMail.wrote -/
def p2_s3109 : ck_Sum := ((8, 2, 12), 245, [.inr (.inr (.inl 1)), .inl (0, 7, []), .inl ((-2147483648), (-1), []), .inl ((-2147483648), 2147483647, []), .inl ((-2147483648), 2147483647, [])], ([], [], []), ([], []), [(.inl 3, 245, ([], [], []))])
set_option maxRecDepth 100000 in
theorem p2_s3109_e : ck_ok p2_O none [] [(139, [p2_s356]), (132, [p2_s293])] 190 [] 82 p2_s3109 = true := by decide +kernel
theorem p2_s3109_s {X : Int → Int} {LX : Nat} : ck_Ok p2_O X LX 190 p2_s3109 := ck_ok_s ⟨p2_nmu, ck_E1 (ck_S1 p2_s356_s ck_S0) (ck_E1 (ck_S1 p2_s293_s ck_S0) ck_E0)⟩ ck_X0 ck_l0 p2_s3109_e
set_option maxRecDepth 100000 in
/-- GlacierMail.wrote -/
def p2_s3110 : ck_Sum := ((8, 2, 12), 245, [.inr (.inr (.inl 1)), .inl (0, 7, []), .inl (6, 2147483647, []), .inl ((-2147483648), 2147483647, []), .inl ((-2147483648), 2147483647, [])], ([], [], []), ([], []), [(.inl 3, 245, ([], [], []))])
set_option maxRecDepth 100000 in
theorem p2_s3110_e : ck_ok p2_O none [] [(139, [p2_s356]), (132, [p2_s296])] 190 [] 82 p2_s3110 = true := by decide +kernel
theorem p2_s3110_s {X : Int → Int} {LX : Nat} : ck_Ok p2_O X LX 190 p2_s3110 := ck_ok_s ⟨p2_nmu, ck_E1 (ck_S1 p2_s356_s ck_S0) (ck_E1 (ck_S1 p2_s296_s ck_S0) ck_E0)⟩ ck_X0 ck_l0 p2_s3110_e
set_option maxRecDepth 100000 in
/-- GlacierMail.wrote -/
def p2_s3111 : ck_Sum := ((8, 3, 18), 245, [.inr (.inr (.inl 1)), .inl (0, 7, []), .inl (0, 5, []), .inl ((-2147483648), (-1), []), .inl ((-2147483648), 2147483647, [])], ([], [], []), ([], []), [(.inl 3, 245, ([], [], [])), (.inl 0, 245, ([], [], []))])
set_option maxRecDepth 100000 in
theorem p2_s3111_e : ck_ok p2_O none [] [(139, [p2_s356]), (132, [p2_s299]), (187, [p2_s3072])] 190 [] 90 p2_s3111 = true := by decide +kernel
theorem p2_s3111_s {X : Int → Int} {LX : Nat} : ck_Ok p2_O X LX 190 p2_s3111 := ck_ok_s ⟨p2_nmu, ck_E1 (ck_S1 p2_s356_s ck_S0) (ck_E1 (ck_S1 p2_s299_s ck_S0) (ck_E1 (ck_S1 p2_s3072_s ck_S0) ck_E0))⟩ ck_X0 ck_l0 p2_s3111_e
set_option maxRecDepth 100000 in
/-- GlacierMail.wrote -/
def p2_s3112 : ck_Sum := ((8, 3, 18), 245, [.inr (.inr (.inl 1)), .inl (0, 7, []), .inl (0, 5, []), .inl (300, 2147483647, []), .inl ((-2147483648), 2147483647, [])], ([], [], []), ([], []), [(.inl 3, 245, ([], [], [])), (.inl 0, 245, ([], [], []))])
set_option maxRecDepth 100000 in
theorem p2_s3112_e : ck_ok p2_O none [] [(139, [p2_s356]), (132, [p2_s299]), (187, [p2_s3074])] 190 [] 90 p2_s3112 = true := by decide +kernel
theorem p2_s3112_s {X : Int → Int} {LX : Nat} : ck_Ok p2_O X LX 190 p2_s3112 := ck_ok_s ⟨p2_nmu, ck_E1 (ck_S1 p2_s356_s ck_S0) (ck_E1 (ck_S1 p2_s299_s ck_S0) (ck_E1 (ck_S1 p2_s3074_s ck_S0) ck_E0))⟩ ck_X0 ck_l0 p2_s3112_e
set_option maxRecDepth 100000 in
/-- GlacierMail.wrote -/
def p2_s3113 : ck_Sum := ((8, 3, 18), 245, [.inr (.inr (.inl 1)), .inl (0, 7, []), .inl (0, 5, []), .inl (0, 299, []), .inl ((-2147483648), (-1), [])], ([], [], []), ([], []), [(.inl 3, 245, ([], [], [])), (.inl 0, 245, ([], [], []))])
set_option maxRecDepth 100000 in
theorem p2_s3113_e : ck_ok p2_O none [] [(139, [p2_s356]), (132, [p2_s299]), (187, [p2_s3076])] 190 [] 90 p2_s3113 = true := by decide +kernel
theorem p2_s3113_s {X : Int → Int} {LX : Nat} : ck_Ok p2_O X LX 190 p2_s3113 := ck_ok_s ⟨p2_nmu, ck_E1 (ck_S1 p2_s356_s ck_S0) (ck_E1 (ck_S1 p2_s299_s ck_S0) (ck_E1 (ck_S1 p2_s3076_s ck_S0) ck_E0))⟩ ck_X0 ck_l0 p2_s3113_e
set_option maxRecDepth 100000 in
/-- GlacierMail.wrote -/
def p2_s3114 : ck_Sum := ((8, 3, 18), 245, [.inr (.inr (.inl 1)), .inl (0, 7, []), .inl (0, 5, []), .inl (0, 299, []), .inl (100, 2147483647, [])], ([], [], []), ([], []), [(.inl 3, 245, ([], [], [])), (.inl 0, 245, ([], [], []))])
set_option maxRecDepth 100000 in
theorem p2_s3114_e : ck_ok p2_O none [] [(139, [p2_s356]), (132, [p2_s299]), (187, [p2_s3078])] 190 [] 90 p2_s3114 = true := by decide +kernel
theorem p2_s3114_s {X : Int → Int} {LX : Nat} : ck_Ok p2_O X LX 190 p2_s3114 := ck_ok_s ⟨p2_nmu, ck_E1 (ck_S1 p2_s356_s ck_S0) (ck_E1 (ck_S1 p2_s299_s ck_S0) (ck_E1 (ck_S1 p2_s3078_s ck_S0) ck_E0))⟩ ck_X0 ck_l0 p2_s3114_e
set_option maxRecDepth 100000 in
/-- GlacierMail.wrote -/
def p2_s3115 : ck_Sum := ((8, 2, 12), 245, [.inr (.inr (.inl 1)), .inl (0, 7, []), .inl (0, 5, []), .inl (0, 299, []), .inl (0, 99, [])], ([], [(3, 8, 0)], []), ([(206, 2, 8)], []), [(.inl 3, 245, ([], [], [])), (.inr (some (.inl (ck_one (-1)))), 245, ([], [], [])), (.inr (some (.inl (0, 298, []))), 245, ([], [], [(206, 4, 4, ck_one (-1))]))])
set_option maxRecDepth 100000 in
theorem p2_s3115_e : ck_ok p2_O none [] [(139, [p2_s356]), (132, [p2_s299]), (187, [p2_s3080]), (188, [p2_s3087])] 190 [] 104 p2_s3115 = true := by decide +kernel
theorem p2_s3115_s {X : Int → Int} {LX : Nat} : ck_Ok p2_O X LX 190 p2_s3115 := ck_ok_s ⟨p2_nmu, ck_E1 (ck_S1 p2_s356_s ck_S0) (ck_E1 (ck_S1 p2_s299_s ck_S0) (ck_E1 (ck_S1 p2_s3080_s ck_S0) (ck_E1 (ck_S1 p2_s3087_s ck_S0) ck_E0)))⟩ ck_X0 ck_l0 p2_s3115_e
set_option maxRecDepth 100000 in
/-- GlacierMailModel.wrote -/
def p2_s3116 : ck_Sum := ((2, 0, 0), 245, [.inr (.inr (.inl 226)), .inl ((-2147483648), (-1), []), .inl ((-2147483648), 2147483647, []), .inl ((-2147483648), 2147483647, []), .inl ((-2147483648), 2147483647, [])], ([], [], [(227, 3, 3, (0, 8, [(21, 0)]))]), ([(226, 0, 0)], []), [(.inr (some (.inl (ck_one 0))), 245, ([], [], [(226, 0, 0, ck_one 1)]))])
set_option maxRecDepth 100000 in
theorem p2_s3116_e : ck_ok p2_O none [] [(298, [p2_s441]), (282, [p2_s268])] 340 [] 100 p2_s3116 = true := by decide +kernel
theorem p2_s3116_s {X : Int → Int} {LX : Nat} : ck_Ok p2_O X LX 340 p2_s3116 := ck_ok_s ⟨p2_nmu, ck_E1 (ck_S1 p2_s441_s ck_S0) (ck_E1 (ck_S1 p2_s268_s ck_S0) ck_E0)⟩ ck_X0 ck_l0 p2_s3116_e
set_option maxRecDepth 100000 in
/-- GlacierMailModel.wrote -/
def p2_s3117 : ck_Sum := ((2, 0, 0), 245, [.inr (.inr (.inl 226)), .inl (8, 2147483647, []), .inl ((-2147483648), 2147483647, []), .inl ((-2147483648), 2147483647, []), .inl ((-2147483648), 2147483647, [])], ([], [], [(227, 3, 3, (0, 8, [(21, 0)]))]), ([(226, 0, 0)], []), [(.inr (some (.inl (ck_one 0))), 245, ([], [], [(226, 0, 0, ck_one 1)]))])
set_option maxRecDepth 100000 in
theorem p2_s3117_e : ck_ok p2_O none [] [(298, [p2_s444]), (282, [p2_s268])] 340 [] 100 p2_s3117 = true := by decide +kernel
theorem p2_s3117_s {X : Int → Int} {LX : Nat} : ck_Ok p2_O X LX 340 p2_s3117 := ck_ok_s ⟨p2_nmu, ck_E1 (ck_S1 p2_s444_s ck_S0) (ck_E1 (ck_S1 p2_s268_s ck_S0) ck_E0)⟩ ck_X0 ck_l0 p2_s3117_e
set_option maxRecDepth 100000 in
/-- GlacierMailModel.wrote -/
def p2_s3118 : ck_Sum := ((2, 0, 0), 245, [.inr (.inr (.inl 226)), .inl (0, 7, []), .inl ((-2147483648), (-1), []), .inl ((-2147483648), 2147483647, []), .inl ((-2147483648), 2147483647, [])], ([], [], [(227, 3, 3, (0, 8, [(21, 0)]))]), ([(226, 0, 0)], []), [(.inr (some (.inl (ck_one 0))), 245, ([], [], [(226, 0, 0, ck_one 1)]))])
set_option maxRecDepth 100000 in
theorem p2_s3118_e : ck_ok p2_O none [] [(298, [p2_s447]), (282, [p2_s268]), (288, [p2_s311])] 340 [] 108 p2_s3118 = true := by decide +kernel
theorem p2_s3118_s {X : Int → Int} {LX : Nat} : ck_Ok p2_O X LX 340 p2_s3118 := ck_ok_s ⟨p2_nmu, ck_E1 (ck_S1 p2_s447_s ck_S0) (ck_E1 (ck_S1 p2_s268_s ck_S0) (ck_E1 (ck_S1 p2_s311_s ck_S0) ck_E0))⟩ ck_X0 ck_l0 p2_s3118_e
set_option maxRecDepth 100000 in
/-- GlacierMailModel.wrote -/
def p2_s3119 : ck_Sum := ((2, 0, 0), 245, [.inr (.inr (.inl 226)), .inl (0, 7, []), .inl (6, 2147483647, []), .inl ((-2147483648), 2147483647, []), .inl ((-2147483648), 2147483647, [])], ([], [], [(227, 3, 3, (0, 8, [(21, 0)]))]), ([(226, 0, 0)], []), [(.inr (some (.inl (ck_one 0))), 245, ([], [], [(226, 0, 0, ck_one 1)]))])
set_option maxRecDepth 100000 in
theorem p2_s3119_e : ck_ok p2_O none [] [(298, [p2_s447]), (282, [p2_s268]), (288, [p2_s314])] 340 [] 108 p2_s3119 = true := by decide +kernel
theorem p2_s3119_s {X : Int → Int} {LX : Nat} : ck_Ok p2_O X LX 340 p2_s3119 := ck_ok_s ⟨p2_nmu, ck_E1 (ck_S1 p2_s447_s ck_S0) (ck_E1 (ck_S1 p2_s268_s ck_S0) (ck_E1 (ck_S1 p2_s314_s ck_S0) ck_E0))⟩ ck_X0 ck_l0 p2_s3119_e
set_option maxRecDepth 100000 in
/-- GlacierMailModel.wrote -/
def p2_s3120 : ck_Sum := ((2, 0, 0), 245, [.inr (.inr (.inl 226)), .inl (0, 7, []), .inl (0, 5, []), .inl ((-2147483648), (-1), []), .inl ((-2147483648), 2147483647, [])], ([], [], [(227, 3, 3, (0, 8, [(21, 0)]))]), ([(226, 0, 0)], []), [(.inr (some (.inl (ck_one 0))), 245, ([], [], [(226, 0, 0, (1, 2, []))]))])
set_option maxRecDepth 100000 in
theorem p2_s3120_e : ck_ok p2_O none [] [(298, [p2_s447]), (282, [p2_s268, p2_s269, p2_s272]), (288, [p2_s317]), (285, [p2_s284])] 340 [] 124 p2_s3120 = true := by decide +kernel
theorem p2_s3120_s {X : Int → Int} {LX : Nat} : ck_Ok p2_O X LX 340 p2_s3120 := ck_ok_s ⟨p2_nmu, ck_E1 (ck_S1 p2_s447_s ck_S0) (ck_E1 (ck_S1 p2_s268_s (ck_S1 p2_s269_s (ck_S1 p2_s272_s ck_S0))) (ck_E1 (ck_S1 p2_s317_s ck_S0) (ck_E1 (ck_S1 p2_s284_s ck_S0) ck_E0)))⟩ ck_X0 ck_l0 p2_s3120_e
set_option maxRecDepth 100000 in
/-- GlacierMailModel.wrote -/
def p2_s3121 : ck_Sum := ((2, 0, 0), 245, [.inr (.inr (.inl 226)), .inl (0, 7, []), .inl (0, 5, []), .inl (300, 2147483647, []), .inl ((-2147483648), 2147483647, [])], ([], [], [(227, 3, 3, (0, 8, [(21, 0)]))]), ([(226, 0, 0)], []), [(.inr (some (.inl (ck_one 0))), 245, ([], [], [(226, 0, 0, (1, 2, []))]))])
set_option maxRecDepth 100000 in
theorem p2_s3121_e : ck_ok p2_O none [] [(298, [p2_s447]), (282, [p2_s268, p2_s269, p2_s272]), (288, [p2_s317]), (285, [p2_s287])] 340 [] 124 p2_s3121 = true := by decide +kernel
theorem p2_s3121_s {X : Int → Int} {LX : Nat} : ck_Ok p2_O X LX 340 p2_s3121 := ck_ok_s ⟨p2_nmu, ck_E1 (ck_S1 p2_s447_s ck_S0) (ck_E1 (ck_S1 p2_s268_s (ck_S1 p2_s269_s (ck_S1 p2_s272_s ck_S0))) (ck_E1 (ck_S1 p2_s317_s ck_S0) (ck_E1 (ck_S1 p2_s287_s ck_S0) ck_E0)))⟩ ck_X0 ck_l0 p2_s3121_e
set_option maxRecDepth 100000 in
/-- GlacierMailModel.wrote -/
def p2_s3122 : ck_Sum := ((2, 0, 0), 245, [.inr (.inr (.inl 226)), .inl (0, 7, []), .inl (0, 5, []), .inl (0, 299, []), .inl ((-2147483648), (-1), [])], ([], [], [(227, 3, 3, (0, 8, [(21, 0)]))]), ([(226, 0, 0)], []), [(.inr (some (.inl (ck_one 0))), 245, ([], [], [(226, 0, 0, (1, 2, []))]))])
set_option maxRecDepth 100000 in
theorem p2_s3122_e : ck_ok p2_O none [] [(298, [p2_s447]), (282, [p2_s268, p2_s269, p2_s272]), (288, [p2_s317]), (285, [p2_s290]), (286, [p2_s3093])] 340 [] 134 p2_s3122 = true := by decide +kernel
theorem p2_s3122_s {X : Int → Int} {LX : Nat} : ck_Ok p2_O X LX 340 p2_s3122 := ck_ok_s ⟨p2_nmu, ck_E1 (ck_S1 p2_s447_s ck_S0) (ck_E1 (ck_S1 p2_s268_s (ck_S1 p2_s269_s (ck_S1 p2_s272_s ck_S0))) (ck_E1 (ck_S1 p2_s317_s ck_S0) (ck_E1 (ck_S1 p2_s290_s ck_S0) (ck_E1 (ck_S1 p2_s3093_s ck_S0) ck_E0))))⟩ ck_X0 ck_l0 p2_s3122_e
set_option maxRecDepth 100000 in
/-- GlacierMailModel.wrote -/
def p2_s3123 : ck_Sum := ((2, 0, 0), 245, [.inr (.inr (.inl 226)), .inl (0, 7, []), .inl (0, 5, []), .inl (0, 299, []), .inl (100, 2147483647, [])], ([], [], [(227, 3, 3, (0, 8, [(21, 0)]))]), ([(226, 0, 0)], []), [(.inr (some (.inl (ck_one 0))), 245, ([], [], [(226, 0, 0, (1, 2, []))]))])
set_option maxRecDepth 100000 in
theorem p2_s3123_e : ck_ok p2_O none [] [(298, [p2_s447]), (282, [p2_s268, p2_s269, p2_s272]), (288, [p2_s317]), (285, [p2_s290]), (286, [p2_s3095])] 340 [] 134 p2_s3123 = true := by decide +kernel
theorem p2_s3123_s {X : Int → Int} {LX : Nat} : ck_Ok p2_O X LX 340 p2_s3123 := ck_ok_s ⟨p2_nmu, ck_E1 (ck_S1 p2_s447_s ck_S0) (ck_E1 (ck_S1 p2_s268_s (ck_S1 p2_s269_s (ck_S1 p2_s272_s ck_S0))) (ck_E1 (ck_S1 p2_s317_s ck_S0) (ck_E1 (ck_S1 p2_s290_s ck_S0) (ck_E1 (ck_S1 p2_s3095_s ck_S0) ck_E0))))⟩ ck_X0 ck_l0 p2_s3123_e
set_option maxRecDepth 100000 in
/-- GlacierMail$Rows.size -/
def p2_s3125 : ck_Sum := ((0, 0, 0), 245, [.inr (.inr (.inl 12))], ([], [], []), ([], []), [(.inr (some (.inl (0, 6, []))), 245, ([], [], []))])
set_option maxRecDepth 100000 in
theorem p2_s3125_e : ck_ok p2_O none [] [] 9 [] 76 p2_s3125 = true := by decide +kernel
theorem p2_s3125_s {X : Int → Int} {LX : Nat} : ck_Ok p2_O X LX 9 p2_s3125 := ck_ok_s ⟨p2_nmu, ck_E0⟩ ck_X0 ck_l0 p2_s3125_e
set_option maxRecDepth 100000 in
/-- GlacierMail.need -/
def p2_s3126 : ck_Sum := ((6, 1, 6), 245, [.inr (.inr (.inl 1)), .inl ((-2147483648), (-1), []), .inl (0, 6, [])], ([], [], []), ([], []), [(.inl 3, 245, ([], [], []))])
set_option maxRecDepth 100000 in
theorem p2_s3126_e : ck_ok p2_O none [] [] 133 [] 76 p2_s3126 = true := by decide +kernel
theorem p2_s3126_s {X : Int → Int} {LX : Nat} : ck_Ok p2_O X LX 133 p2_s3126 := ck_ok_s ⟨p2_nmu, ck_E0⟩ ck_X0 ck_l0 p2_s3126_e
set_option maxRecDepth 100000 in
/-- GlacierMail.needTable -/
def p2_s3127 : ck_Sum := ((7, 1, 6), 245, [.inr (.inr (.inl 1)), .inl ((-2147483648), (-1), [])], ([], [], []), ([], []), [(.inl 3, 245, ([], [], []))])
set_option maxRecDepth 100000 in
theorem p2_s3127_e : ck_ok p2_O none [] [(9, [p2_s3125]), (133, [p2_s3126])] 193 [] 84 p2_s3127 = true := by decide +kernel
theorem p2_s3127_s {X : Int → Int} {LX : Nat} : ck_Ok p2_O X LX 193 p2_s3127 := ck_ok_s ⟨p2_nmu, ck_E1 (ck_S1 p2_s3125_s ck_S0) (ck_E1 (ck_S1 p2_s3126_s ck_S0) ck_E0)⟩ ck_X0 ck_l0 p2_s3127_e
set_option maxRecDepth 100000 in
/-- GlacierMail.table -/
def p2_s3128 : ck_Sum := ((8, 1, 6), 245, [.inr (.inr (.inl 1)), .inl ((-2147483648), (-1), []), .inl ((-2147483648), 2147483647, [])], ([], [], []), ([], []), [(.inl 3, 245, ([], [], []))])
set_option maxRecDepth 100000 in
theorem p2_s3128_e : ck_ok p2_O none [] [(193, [p2_s3127])] 192 [] 76 p2_s3128 = true := by decide +kernel
theorem p2_s3128_s {X : Int → Int} {LX : Nat} : ck_Ok p2_O X LX 192 p2_s3128 := ck_ok_s ⟨p2_nmu, ck_E1 (ck_S1 p2_s3127_s ck_S0) ck_E0⟩ ck_X0 ck_l0 p2_s3128_e
set_option maxRecDepth 100000 in
/-- GlacierMail.need -/
def p2_s3129 : ck_Sum := ((6, 1, 6), 245, [.inr (.inr (.inl 1)), .inl (6, 2147483647, []), .inl (0, 6, [])], ([], [], []), ([], []), [(.inl 3, 245, ([], [], []))])
set_option maxRecDepth 100000 in
theorem p2_s3129_e : ck_ok p2_O none [] [] 133 [] 82 p2_s3129 = true := by decide +kernel
theorem p2_s3129_s {X : Int → Int} {LX : Nat} : ck_Ok p2_O X LX 133 p2_s3129 := ck_ok_s ⟨p2_nmu, ck_E0⟩ ck_X0 ck_l0 p2_s3129_e
set_option maxRecDepth 100000 in
/-- GlacierMail.needTable -/
def p2_s3130 : ck_Sum := ((7, 1, 6), 245, [.inr (.inr (.inl 1)), .inl (6, 2147483647, [])], ([], [], []), ([], []), [(.inl 3, 245, ([], [], []))])
set_option maxRecDepth 100000 in
theorem p2_s3130_e : ck_ok p2_O none [] [(9, [p2_s3125]), (133, [p2_s3129])] 193 [] 84 p2_s3130 = true := by decide +kernel
theorem p2_s3130_s {X : Int → Int} {LX : Nat} : ck_Ok p2_O X LX 193 p2_s3130 := ck_ok_s ⟨p2_nmu, ck_E1 (ck_S1 p2_s3125_s ck_S0) (ck_E1 (ck_S1 p2_s3129_s ck_S0) ck_E0)⟩ ck_X0 ck_l0 p2_s3130_e
set_option maxRecDepth 100000 in
/-- GlacierMail.table -/
def p2_s3131 : ck_Sum := ((8, 1, 6), 245, [.inr (.inr (.inl 1)), .inl (6, 2147483647, []), .inl ((-2147483648), 2147483647, [])], ([], [], []), ([], []), [(.inl 3, 245, ([], [], []))])
set_option maxRecDepth 100000 in
theorem p2_s3131_e : ck_ok p2_O none [] [(193, [p2_s3130])] 192 [] 76 p2_s3131 = true := by decide +kernel
theorem p2_s3131_s {X : Int → Int} {LX : Nat} : ck_Ok p2_O X LX 192 p2_s3131 := ck_ok_s ⟨p2_nmu, ck_E1 (ck_S1 p2_s3130_s ck_S0) ck_E0⟩ ck_X0 ck_l0 p2_s3131_e
set_option maxRecDepth 100000 in
/-- GlacierMail.need -/
def p2_s3132 : ck_Sum := ((6, 1, 6), 245, [.inr (.inr (.inl 1)), .inl (0, 5, []), .inl (0, 6, [])], ([], [], []), ([], []), [(.inr none, 245, ([], [], [])), (.inl 3, 245, ([], [], []))])
set_option maxRecDepth 100000 in
theorem p2_s3132_e : ck_ok p2_O none [] [] 133 [] 82 p2_s3132 = true := by decide +kernel
theorem p2_s3132_s {X : Int → Int} {LX : Nat} : ck_Ok p2_O X LX 133 p2_s3132 := ck_ok_s ⟨p2_nmu, ck_E0⟩ ck_X0 ck_l0 p2_s3132_e
set_option maxRecDepth 100000 in
/-- GlacierMail.needTable -/
def p2_s3133 : ck_Sum := ((7, 1, 6), 245, [.inr (.inr (.inl 1)), .inl (0, 5, [])], ([], [], []), ([], []), [(.inl 3, 245, ([], [], [])), (.inr none, 245, ([], [], []))])
set_option maxRecDepth 100000 in
theorem p2_s3133_e : ck_ok p2_O none [] [(9, [p2_s3125]), (133, [p2_s3132])] 193 [] 86 p2_s3133 = true := by decide +kernel
theorem p2_s3133_s {X : Int → Int} {LX : Nat} : ck_Ok p2_O X LX 193 p2_s3133 := ck_ok_s ⟨p2_nmu, ck_E1 (ck_S1 p2_s3125_s ck_S0) (ck_E1 (ck_S1 p2_s3132_s ck_S0) ck_E0)⟩ ck_X0 ck_l0 p2_s3133_e
set_option maxRecDepth 100000 in
/-- GlacierMail.table -/
def p2_s3134 : ck_Sum := ((8, 2, 12), 245, [.inr (.inr (.inl 1)), .inl (0, 5, []), .inl ((-2147483648), (-1), [])], ([], [], []), ([], []), [(.inl 3, 245, ([], [], []))])
set_option maxRecDepth 100000 in
theorem p2_s3134_e : ck_ok p2_O none [] [(193, [p2_s3133]), (132, [p2_s293])] 192 [] 82 p2_s3134 = true := by decide +kernel
theorem p2_s3134_s {X : Int → Int} {LX : Nat} : ck_Ok p2_O X LX 192 p2_s3134 := ck_ok_s ⟨p2_nmu, ck_E1 (ck_S1 p2_s3133_s ck_S0) (ck_E1 (ck_S1 p2_s293_s ck_S0) ck_E0)⟩ ck_X0 ck_l0 p2_s3134_e
set_option maxRecDepth 100000 in
/-- GlacierMail.table -/
def p2_s3135 : ck_Sum := ((8, 2, 12), 245, [.inr (.inr (.inl 1)), .inl (0, 5, []), .inl (6, 2147483647, [])], ([], [], []), ([], []), [(.inl 3, 245, ([], [], []))])
set_option maxRecDepth 100000 in
theorem p2_s3135_e : ck_ok p2_O none [] [(193, [p2_s3133]), (132, [p2_s296])] 192 [] 82 p2_s3135 = true := by decide +kernel
theorem p2_s3135_s {X : Int → Int} {LX : Nat} : ck_Ok p2_O X LX 192 p2_s3135 := ck_ok_s ⟨p2_nmu, ck_E1 (ck_S1 p2_s3133_s ck_S0) (ck_E1 (ck_S1 p2_s296_s ck_S0) ck_E0)⟩ ck_X0 ck_l0 p2_s3135_e
set_option maxRecDepth 100000 in
/-- GlacierMail$Rows.get -/
def p2_s3136 : ck_Sum := ((0, 0, 0), 245, [.inr (.inr (.inl 12)), .inl ((-2147483648), 2147483647, []), .inl ((-2147483648), 2147483647, [])], ([], [], []), ([], []), [(.inr (some (.inl (ck_one (-1)))), 245, ([], [], [])), (.inr (some (.inl (0, 20, []))), 245, ([], [], [(12, 3, 3, (1, 6, []))]))])
set_option maxRecDepth 100000 in
theorem p2_s3136_e : ck_ok p2_O none [] [] 10 [] 114 p2_s3136 = true := by decide +kernel
theorem p2_s3136_s {X : Int → Int} {LX : Nat} : ck_Ok p2_O X LX 10 p2_s3136 := ck_ok_s ⟨p2_nmu, ck_E0⟩ ck_X0 ck_l0 p2_s3136_e
set_option maxRecDepth 100000 in
/-- GlacierMail.table -/
def p2_s3137 : ck_Sum := ((8, 2, 12), 245, [.inr (.inr (.inl 1)), .inl (0, 5, []), .inl (0, 5, [])], ([], [], []), ([], []), [(.inl 3, 245, ([], [], [])), (.inr (some (.inl (ck_one (-1)))), 245, ([], [], [])), (.inr (some (.inl (0, 20, []))), 245, ([], [], [(12, 3, 3, (1, 6, []))]))])
set_option maxRecDepth 100000 in
theorem p2_s3137_e : ck_ok p2_O none [] [(193, [p2_s3133]), (132, [p2_s299]), (10, [p2_s3136])] 192 [] 96 p2_s3137 = true := by decide +kernel
theorem p2_s3137_s {X : Int → Int} {LX : Nat} : ck_Ok p2_O X LX 192 p2_s3137 := ck_ok_s ⟨p2_nmu, ck_E1 (ck_S1 p2_s3133_s ck_S0) (ck_E1 (ck_S1 p2_s299_s ck_S0) (ck_E1 (ck_S1 p2_s3136_s ck_S0) ck_E0))⟩ ck_X0 ck_l0 p2_s3137_e
set_option maxRecDepth 100000 in
/-- GlacierMailModel.in -/
def p2_s3138 : ck_Sum := ((0, 0, 0), 245, [.inl ((-2147483648), (-1), []), .inl (ck_one 0), .inl ((-1), 5, [])], ([], [], []), ([], []), [(.inr (some (.inl (ck_one 0))), 245, ([], [], []))])
set_option maxRecDepth 100000 in
theorem p2_s3138_e : ck_ok p2_O none [] [] 286 [] 80 p2_s3138 = true := by decide +kernel
theorem p2_s3138_s {X : Int → Int} {LX : Nat} : ck_Ok p2_O X LX 286 p2_s3138 := ck_ok_s ⟨p2_nmu, ck_E0⟩ ck_X0 ck_l0 p2_s3138_e
set_option maxRecDepth 100000 in
/-- GlacierMailModel.noTable -/
def p2_s3139 : ck_Sum := ((1, 0, 0), 245, [.inr (.inr (.inl 226)), .inl ((-2147483648), (-1), [])], ([], [], [(227, 6, 6, (0, 6, [(24, 0)]))]), ([], []), [(.inr (some (.inl (ck_one 1))), 245, ([], [], []))])
set_option maxRecDepth 100000 in
theorem p2_s3139_e : ck_ok p2_O none [] [(286, [p2_s3138])] 342 [] 96 p2_s3139 = true := by decide +kernel
theorem p2_s3139_s {X : Int → Int} {LX : Nat} : ck_Ok p2_O X LX 342 p2_s3139 := ck_ok_s ⟨p2_nmu, ck_E1 (ck_S1 p2_s3138_s ck_S0) ck_E0⟩ ck_X0 ck_l0 p2_s3139_e
set_option maxRecDepth 100000 in
/-- GlacierMailModel.table -/
def p2_s3140 : ck_Sum := ((2, 0, 0), 245, [.inr (.inr (.inl 226)), .inl ((-2147483648), (-1), []), .inl ((-2147483648), 2147483647, [])], ([], [], [(227, 6, 6, (0, 6, [(24, 0)]))]), ([(226, 0, 0)], []), [(.inr (some (.inl (ck_one 0))), 245, ([], [], [(226, 0, 0, ck_one 1)]))])
set_option maxRecDepth 100000 in
theorem p2_s3140_e : ck_ok p2_O none [] [(342, [p2_s3139]), (282, [p2_s268])] 341 [] 102 p2_s3140 = true := by decide +kernel
theorem p2_s3140_s {X : Int → Int} {LX : Nat} : ck_Ok p2_O X LX 341 p2_s3140 := ck_ok_s ⟨p2_nmu, ck_E1 (ck_S1 p2_s3139_s ck_S0) (ck_E1 (ck_S1 p2_s268_s ck_S0) ck_E0)⟩ ck_X0 ck_l0 p2_s3140_e
set_option maxRecDepth 100000 in
/-- GlacierMailModel.in -/
def p2_s3141 : ck_Sum := ((0, 0, 0), 245, [.inl (6, 2147483647, []), .inl (ck_one 0), .inl ((-1), 5, [])], ([], [], []), ([], []), [(.inr (some (.inl (ck_one 0))), 245, ([], [], []))])
set_option maxRecDepth 100000 in
theorem p2_s3141_e : ck_ok p2_O none [] [] 286 [] 86 p2_s3141 = true := by decide +kernel
theorem p2_s3141_s {X : Int → Int} {LX : Nat} : ck_Ok p2_O X LX 286 p2_s3141 := ck_ok_s ⟨p2_nmu, ck_E0⟩ ck_X0 ck_l0 p2_s3141_e
set_option maxRecDepth 100000 in
/-- GlacierMailModel.noTable -/
def p2_s3142 : ck_Sum := ((1, 0, 0), 245, [.inr (.inr (.inl 226)), .inl (6, 2147483647, [])], ([], [], [(227, 6, 6, (0, 6, [(24, 0)]))]), ([], []), [(.inr (some (.inl (ck_one 1))), 245, ([], [], []))])
set_option maxRecDepth 100000 in
theorem p2_s3142_e : ck_ok p2_O none [] [(286, [p2_s3141])] 342 [] 96 p2_s3142 = true := by decide +kernel
theorem p2_s3142_s {X : Int → Int} {LX : Nat} : ck_Ok p2_O X LX 342 p2_s3142 := ck_ok_s ⟨p2_nmu, ck_E1 (ck_S1 p2_s3141_s ck_S0) ck_E0⟩ ck_X0 ck_l0 p2_s3142_e
set_option maxRecDepth 100000 in
/-- GlacierMailModel.table -/
def p2_s3143 : ck_Sum := ((2, 0, 0), 245, [.inr (.inr (.inl 226)), .inl (6, 2147483647, []), .inl ((-2147483648), 2147483647, [])], ([], [], [(227, 6, 6, (0, 6, [(24, 0)]))]), ([(226, 0, 0)], []), [(.inr (some (.inl (ck_one 0))), 245, ([], [], [(226, 0, 0, ck_one 1)]))])
set_option maxRecDepth 100000 in
theorem p2_s3143_e : ck_ok p2_O none [] [(342, [p2_s3142]), (282, [p2_s268])] 341 [] 102 p2_s3143 = true := by decide +kernel
theorem p2_s3143_s {X : Int → Int} {LX : Nat} : ck_Ok p2_O X LX 341 p2_s3143 := ck_ok_s ⟨p2_nmu, ck_E1 (ck_S1 p2_s3142_s ck_S0) (ck_E1 (ck_S1 p2_s268_s ck_S0) ck_E0)⟩ ck_X0 ck_l0 p2_s3143_e
set_option maxRecDepth 100000 in
/-- GlacierMailModel.in -/
def p2_s3144 : ck_Sum := ((0, 0, 0), 245, [.inl (0, 5, []), .inl (ck_one 0), .inl ((-1), 5, [])], ([], [], []), ([], []), [(.inr (some (.inl (ck_one 0))), 245, ([], [], [])), (.inr (some (.inl (ck_one 1))), 245, ([], [], []))])
set_option maxRecDepth 100000 in
theorem p2_s3144_e : ck_ok p2_O none [] [] 286 [] 88 p2_s3144 = true := by decide +kernel
theorem p2_s3144_s {X : Int → Int} {LX : Nat} : ck_Ok p2_O X LX 286 p2_s3144 := ck_ok_s ⟨p2_nmu, ck_E0⟩ ck_X0 ck_l0 p2_s3144_e
set_option maxRecDepth 100000 in
/-- GlacierMailModel.noTable -/
def p2_s3145 : ck_Sum := ((1, 0, 0), 245, [.inr (.inr (.inl 226)), .inl (0, 5, [])], ([], [], [(227, 6, 6, (0, 6, [(24, 0)]))]), ([], []), [(.inr (some (.inl (ck_one 1))), 245, ([], [], [])), (.inr (some (.inl (ck_one 0))), 245, ([], [], []))])
set_option maxRecDepth 100000 in
theorem p2_s3145_e : ck_ok p2_O none [] [(286, [p2_s3144])] 342 [] 96 p2_s3145 = true := by decide +kernel
theorem p2_s3145_s {X : Int → Int} {LX : Nat} : ck_Ok p2_O X LX 342 p2_s3145 := ck_ok_s ⟨p2_nmu, ck_E1 (ck_S1 p2_s3144_s ck_S0) ck_E0⟩ ck_X0 ck_l0 p2_s3145_e
set_option maxRecDepth 100000 in
/-- GlacierMailModel.table -/
def p2_s3146 : ck_Sum := ((2, 0, 0), 245, [.inr (.inr (.inl 226)), .inl (0, 5, []), .inl ((-2147483648), (-1), [])], ([], [], [(227, 6, 6, (0, 6, [(24, 0)]))]), ([(226, 0, 0)], []), [(.inr (some (.inl (ck_one 0))), 245, ([], [], [(226, 0, 0, ck_one 1)]))])
set_option maxRecDepth 100000 in
theorem p2_s3146_e : ck_ok p2_O none [] [(342, [p2_s3145]), (282, [p2_s268]), (288, [p2_s311])] 341 [] 110 p2_s3146 = true := by decide +kernel
theorem p2_s3146_s {X : Int → Int} {LX : Nat} : ck_Ok p2_O X LX 341 p2_s3146 := ck_ok_s ⟨p2_nmu, ck_E1 (ck_S1 p2_s3145_s ck_S0) (ck_E1 (ck_S1 p2_s268_s ck_S0) (ck_E1 (ck_S1 p2_s311_s ck_S0) ck_E0))⟩ ck_X0 ck_l0 p2_s3146_e
set_option maxRecDepth 100000 in
/-- GlacierMailModel.table -/
def p2_s3147 : ck_Sum := ((2, 0, 0), 245, [.inr (.inr (.inl 226)), .inl (0, 5, []), .inl (6, 2147483647, [])], ([], [], [(227, 6, 6, (0, 6, [(24, 0)]))]), ([(226, 0, 0)], []), [(.inr (some (.inl (ck_one 0))), 245, ([], [], [(226, 0, 0, ck_one 1)]))])
set_option maxRecDepth 100000 in
theorem p2_s3147_e : ck_ok p2_O none [] [(342, [p2_s3145]), (282, [p2_s268]), (288, [p2_s314])] 341 [] 110 p2_s3147 = true := by decide +kernel
theorem p2_s3147_s {X : Int → Int} {LX : Nat} : ck_Ok p2_O X LX 341 p2_s3147 := ck_ok_s ⟨p2_nmu, ck_E1 (ck_S1 p2_s3145_s ck_S0) (ck_E1 (ck_S1 p2_s268_s ck_S0) (ck_E1 (ck_S1 p2_s314_s ck_S0) ck_E0))⟩ ck_X0 ck_l0 p2_s3147_e
set_option maxRecDepth 100000 in
/-- GlacierMailModel.ofTable -/
def p2_s3148 : ck_Sum := ((0, 0, 0), 245, [.inr (.inr (.inl 226)), .inl (0, 5, []), .inl (0, 5, [])], ([], [], []), ([], []), [(.inr (some (.inl (0, 20, []))), 245, ([], [], []))])
set_option maxRecDepth 100000 in
theorem p2_s3148_e : ck_ok p2_O none [] [] 343 [] 92 p2_s3148 = true := by decide +kernel
theorem p2_s3148_s {X : Int → Int} {LX : Nat} : ck_Ok p2_O X LX 343 p2_s3148 := ck_ok_s ⟨p2_nmu, ck_E0⟩ ck_X0 ck_l0 p2_s3148_e
set_option maxRecDepth 100000 in
/-- GlacierMailModel.table -/
def p2_s3149 : ck_Sum := ((2, 0, 0), 245, [.inr (.inr (.inl 226)), .inl (0, 5, []), .inl (0, 5, [])], ([], [], [(227, 6, 6, (0, 6, [(24, 0)]))]), ([(226, 0, 0)], []), [(.inr (some (.inl (0, 20, []))), 245, ([], [], [(226, 0, 0, (0, 1, []))]))])
set_option maxRecDepth 100000 in
theorem p2_s3149_e : ck_ok p2_O none [] [(342, [p2_s3145]), (282, [p2_s268, p2_s269]), (288, [p2_s317]), (343, [p2_s3148])] 341 [] 112 p2_s3149 = true := by decide +kernel
theorem p2_s3149_s {X : Int → Int} {LX : Nat} : ck_Ok p2_O X LX 341 p2_s3149 := ck_ok_s ⟨p2_nmu, ck_E1 (ck_S1 p2_s3145_s ck_S0) (ck_E1 (ck_S1 p2_s268_s (ck_S1 p2_s269_s ck_S0)) (ck_E1 (ck_S1 p2_s317_s ck_S0) (ck_E1 (ck_S1 p2_s3148_s ck_S0) ck_E0)))⟩ ck_X0 ck_l0 p2_s3149_e
