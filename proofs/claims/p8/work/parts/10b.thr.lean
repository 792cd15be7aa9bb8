/-! STRING CONSTANTS by place, THROWS. -/
noncomputable def gm_slk : List ((Nat × Nat) × Nat) := [((12, 82), 0), ((12, 87), 1), ((12, 89), 2), ((12, 65), 3), ((12, 100), 4), ((12, 109), 5), ((12, 111), 6), ((12, 122), 7), ((12, 124), 8), ((12, 126), 9), ((12, 128), 10), ((12, 130), 11), ((12, 132), 12), ((12, 134), 13), ((12, 136), 14), ((12, 96), 15), ((12, 98), 16), ((9, 19), 17), ((9, 31), 18), ((9, 36), 19), ((9, 41), 20), ((9, 131), 21), ((9, 46), 22), ((9, 51), 23), ((9, 56), 24), ((9, 61), 25), ((9, 152), 26), ((9, 66), 27), ((9, 71), 28), ((0, 123), 29), ((0, 133), 30), ((0, 140), 31), ((0, 458), 32), ((0, 455), 33), ((0, 197), 34), ((0, 215), 35), ((0, 462), 36), ((0, 241), 37), ((0, 263), 38), ((0, 272), 39), ((0, 287), 40), ((0, 289), 41), ((0, 301), 42), ((0, 460), 43), ((0, 365), 44), ((0, 379), 45), ((0, 414), 46), ((20, 181), 47), ((20, 185), 48), ((20, 190), 49), ((20, 195), 50), ((20, 156), 51), ((20, 200), 52), ((20, 205), 53), ((20, 168), 54), ((20, 210), 55), ((20, 215), 56), ((20, 220), 57), ((20, 222), 58), ((20, 275), 59), ((20, 277), 60), ((20, 279), 61), ((20, 281), 62), ((20, 256), 63), ((20, 261), 64), ((20, 263), 65), ((20, 231), 66), ((20, 233), 67), ((20, 235), 68), ((20, 237), 69), ((20, 239), 70), ((20, 241), 71), ((20, 243), 72), ((20, 268), 73), ((20, 273), 74)]
noncomputable def gm_sld (o ix : Nat) : Option Nat := gm_slk.lookup (o, ix)
theorem gm_slk_ok : gm_slk.all (fun q => (match gm_sr_[q.2]? with | some r => decide (r.1 = gm_rn q.1.1 ∧ r.2.1 = q.1.2 ∧ r.2.2.2 = q.2) | none => false) && decide (q.2 < 1000)) = true := by decide +kernel
/-- the classes thrown: class of the code, its link, number, the constructor's link; words -/
noncomputable def gm_xl : List (Nat × Nat × Nat × Nat × Nat × Nat) := [(0, 121, 0, 125, 1070, 176), (0, 131, 1, 135, 1139, 177), (0, 261, 2, 265, 1364, 181), (0, 453, 3, 457, 1227, 179), (0, 195, 4, 199, 1272, 180)]
noncomputable def gm_xnm : List String := ["java/lang/RuntimeException", "java/lang/Exception"]
noncomputable def gm_xok (w : Jvm.Cond) (X : String) : Bool := (gm_mem w && goodWord w) || decide (w = .castable X X) || gm_dcs.any (fun y => decide (w = .declares y))
/-- of the fifth: its constructor, the pool number in it -/
noncomputable def gm_xix : Nat := 13
noncomputable def gm_xrx : ByteArray := ⟨#[0x2a, 0x2b, 0xb7, 0x0, 0xd, 0xb1]⟩
/-- the words of a throw -/
noncomputable def gm_xat (o ic x : Nat) : List Jvm.Cond := if x = 4 then gm_atX (gm_rn o) ic (gm_xn x) gm_xix gm_xrx gm_xnm else vx_atS (gm_rn o) ic (gm_xn x) gm_xnm
noncomputable def gm_xck (q : Nat × Nat × Nat × Nat × Nat × Nat) : Bool := match q with
  | (o, ik, x, ic, p1, p2) => decide (x < 5) && decide (gm_tb (p1) = some (.classLink (gm_rn o) ik (gm_xn x))) && decide (gm_tb (p2) = some (.initialized (gm_xn x))) && (gm_xat o ic x).all (fun w => gm_xok w (gm_xn x) && vx_ot w) && (Bundle.fit (gm_xn x) && gm_xnm.all Bundle.fit)
theorem gm_xl_ok : gm_xl.all gm_xck = true := by decide +kernel
noncomputable def gm_xlk (o ik : Nat) : Option (Nat × Nat) := (gm_xl.find? (fun q => decide (q.1 = o ∧ q.2.1 = ik))).map (fun q => (q.2.2.1, q.2.2.2.1))
