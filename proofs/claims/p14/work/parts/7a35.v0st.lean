/-! WHAT A TEXT OF A VALLEY TELLS, by tokens: (whether it is right, where it ends or is wrong, what is told then). -/
section V0
variable (f : Int → Int) (e : Int)
def wv_lanes : List Int := [108, 97, 110, 101, 115]
def wv_last : List Int := [108, 97, 115, 116]
def wv_section : List Int := [115, 101, 99, 116, 105, 111, 110]
def wv_snow : List Int := [115, 110, 111, 119]
def wv_stripe : List Int := [115, 116, 114, 105, 112, 101]
def wv_seed : List Int := [115, 101, 101, 100]
def wv_flood : List Int := [102, 108, 111, 111, 100]
def wv_person : List Int := [112, 101, 114, 115, 111, 110]
def wv_rock : List Int := [114, 111, 99, 107]
def wv_table : List Int := [116, 97, 98, 108, 101]
def wv_fall : List Int := [102, 97, 108, 108]
def wv_watch : List Int := [119, 97, 116, 99, 104]
def vn (lo hi b : Int) : Prop := tx_k f e b = 258 ∧ lo ≤ tx_v f e 4 b ∧ tx_v f e 4 b ≤ hi
def v_emp (N : Int → Int) : Prop := N 2 + N 5 + N 3 + N 4 + N 6 = 0
noncomputable def v_lanes (N : Int → Int) (b : Int) : Bool × Int × (Int → Int) := tif (v_emp N) (tif (vn f e 1 6 (tx_n f e b)) (true, tx_n f e (tx_n f e b), nup (nup N 0 (tx_v f e 4 (tx_n f e b))) 12 (tx_v f e 4 (tx_n f e b))) (false, tx_n f e b, N)) (false, b, N)
noncomputable def v_last (N : Int → Int) (b : Int) : Bool × Int × (Int → Int) := tif (v_emp N) (tif (vn f e 10 99 (tx_n f e b)) (true, tx_n f e (tx_n f e b), nup (nup N 1 (tx_v f e 4 (tx_n f e b))) 10 10) (false, tx_n f e b, N)) (false, b, N)
/-- speeds, t of them, from place a on -/
noncomputable def v_sp : Nat → (Int → Int) → Int → Int → Bool × Int × (Int → Int)
  | 0, N, _, b => (true, b, N)
  | t + 1, N, a, b => tif (vn f e 0 20 b) (v_sp t (nup N a (tx_v f e 4 b)) (a + 1) (tx_n f e b)) (false, b, N)
noncomputable def v_section (N : Int → Int) (b : Int) : Bool × Int × (Int → Int) := tif (N 2 = 8) (false, b, N)
  (tif (vn f e (if N 2 = 0 then 0 else N (15 + ((N 2 - 1) * 7 + 0)) + 1) (if N 2 = 0 then 0 else N 1 - 1) (tx_n f e b))
    (v_sp f e (N 0).toNat (nup (nup N 2 (N 2 + 1)) (15 + (N 2 * 7 + 0)) (tx_v f e 4 (tx_n f e b))) (15 + (N 2 * 7 + (1 + 0))) (tx_n f e (tx_n f e b)))
    (false, tx_n f e b, N))
noncomputable def v_snow (N : Int → Int) (b : Int) : Bool × Int × (Int → Int) := tif (vn f e 0 (N 1 - 1) (tx_n f e b))
  (tif (tx_is f e (tx_n f e (tx_n f e b)) wv_fall) (tif (vn f e 0 9 (tx_n f e (tx_n f e (tx_n f e b)))) (true, tx_n f e (tx_n f e (tx_n f e (tx_n f e b))), nup (nup N 10 (tx_v f e 4 (tx_n f e b))) 11 (tx_v f e 4 (tx_n f e (tx_n f e (tx_n f e b))))) (false, tx_n f e (tx_n f e (tx_n f e b)), N)) (false, tx_n f e (tx_n f e b), N))
  (false, tx_n f e b, N)
noncomputable def v_stripe (N : Int → Int) (b : Int) : Bool × Int × (Int → Int) := tif (vn f e 0 (N 0) (tx_n f e b)) (true, tx_n f e (tx_n f e b), nup N 12 (tx_v f e 4 (tx_n f e b))) (false, tx_n f e b, N)
noncomputable def v_seed (N : Int → Int) (b : Int) : Bool × Int × (Int → Int) := tif (vn f e 0 9999 (tx_n f e b)) (true, tx_n f e (tx_n f e b), nup N 13 (tx_v f e 4 (tx_n f e b))) (false, tx_n f e b, N)
noncomputable def v_flood (N : Int → Int) (b : Int) : Bool × Int × (Int → Int) := tif (N 5 = 8) (false, b, N)
  (tif (vn f e (N 9) 299 (tx_n f e b))
    (tif (vn f e 0 (N 1 - 1) (tx_n f e (tx_n f e b)))
      (tif (vn f e 1 20 (tx_n f e (tx_n f e (tx_n f e b))))
        (true, tx_n f e (tx_n f e (tx_n f e (tx_n f e b))), nup (nup (nup (nup N 5 (N 5 + 1)) (71 + (N 5 * 3 + 0)) (tx_v f e 4 (tx_n f e b))) (71 + (N 5 * 3 + 1)) (tx_v f e 4 (tx_n f e (tx_n f e b)))) (71 + (N 5 * 3 + 2)) (tx_v f e 4 (tx_n f e (tx_n f e (tx_n f e b)))))
        (false, tx_n f e (tx_n f e (tx_n f e b)), N))
      (false, tx_n f e (tx_n f e b), N))
    (false, tx_n f e b, N))
def nper (N : Int → Int) (l r w : Int) : Int → Int := nup (nup (nup (nup N 3 (N 3 + 1)) (95 + (N 3 * 3 + 0)) l) (95 + (N 3 * 3 + 1)) r) (95 + (N 3 * 3 + 2)) w
noncomputable def v_person (N : Int → Int) (b : Int) : Bool × Int × (Int → Int) := tif (N 3 = 8) (false, b, N)
  (tif (vn f e 0 (N 0 - 1) (tx_n f e b))
    (tif (vn f e 0 (N 1 - 1) (tx_n f e (tx_n f e b)))
      (tif (tx_is f e (tx_n f e (tx_n f e (tx_n f e b))) wv_watch)
        (tif (vn f e 0 (N 0 - 1) (tx_n f e (tx_n f e (tx_n f e (tx_n f e b)))))
          (true, tx_n f e (tx_n f e (tx_n f e (tx_n f e (tx_n f e b)))), nper N (tx_v f e 4 (tx_n f e b)) (tx_v f e 4 (tx_n f e (tx_n f e b))) (tx_v f e 4 (tx_n f e (tx_n f e (tx_n f e (tx_n f e b))))))
          (false, tx_n f e (tx_n f e (tx_n f e (tx_n f e b))), N))
        (true, tx_n f e (tx_n f e (tx_n f e b)), nper N (tx_v f e 4 (tx_n f e b)) (tx_v f e 4 (tx_n f e (tx_n f e b))) (-1)))
      (false, tx_n f e (tx_n f e b), N))
    (false, tx_n f e b, N))
noncomputable def v_rock (N : Int → Int) (b : Int) : Bool × Int × (Int → Int) := tif (N 4 = 24) (false, b, N)
  (tif (vn f e 0 (N 0 - 1) (tx_n f e b))
    (tif (vn f e 0 (N 1 - 1) (tx_n f e (tx_n f e b)))
      (true, tx_n f e (tx_n f e (tx_n f e b)), nthr N (-1) (-1) (tx_v f e 4 (tx_n f e b)) (tx_v f e 4 (tx_n f e (tx_n f e b))))
      (false, tx_n f e (tx_n f e b), N))
    (false, tx_n f e b, N))
noncomputable def v_table (N : Int → Int) (b : Int) : Bool × Int × (Int → Int) := tif (N 6 = 6) (false, b, N) (v_sp f e (N 0).toNat (nup N 6 (N 6 + 1)) (287 + (N 6 * 6 + (0 + 0))) (tx_n f e b))
noncomputable def v_line (N : Int → Int) (b : Int) : Bool × Int × (Int → Int) :=
  tif (tx_is f e b wv_lanes) (v_lanes f e N b) (tif (tx_is f e b wv_last) (v_last f e N b) (tif (tx_is f e b wv_section) (v_section f e N b) (tif (tx_is f e b wv_snow) (v_snow f e N b) (tif (tx_is f e b wv_stripe) (v_stripe f e N b) (tif (tx_is f e b wv_seed) (v_seed f e N b) (tif (tx_is f e b wv_flood) (v_flood f e N b) (tif (tx_is f e b wv_person) (v_person f e N b) (tif (tx_is f e b wv_rock) (v_rock f e N b) (tif (tx_is f e b wv_table) (v_table f e N b) (false, b, N))))))))))
noncomputable def v_txt : Nat → (Int → Int) → Int → Bool × Int × (Int → Int)
  | 0, N, b => (false, b, N)
  | t + 1, N, b => tif ((v_line f e N b).1 = true) (tif (tx_k f e (v_line f e N b).2.1 = 256) (v_line f e N b) (tif (tx_k f e (v_line f e N b).2.1 = 59) (v_txt t (v_line f e N b).2.2 (tx_n f e (v_line f e N b).2.1)) (false, (v_line f e N b).2.1, N))) (false, (v_line f e N b).2.1, N)
/-- the valley that is told -/
noncomputable def v_val (N : Int → Int) : Bool × Int × (Int → Int) := tif (tx_k f e (tx_g f e 0) = 256) (true, tx_g f e 0, N) (v_txt f e 14 N (tx_g f e 0))
end V0
