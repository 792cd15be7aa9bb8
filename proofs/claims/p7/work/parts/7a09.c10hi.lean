/-! 7a09.c10hi -/
section
/-! THE CLASS'S HISTORY (laid by wip/core/c10.py). -/
section HI0
variable {X : Int → Int} {LX d bc bs mi pc n : Nat} {L : gm_L} {st : List gm_V} {K : gm_K} {R : gm_R} {M : gm_M} {Q : gm_Q} {p : Int}
theorem fw_aa {k len r : Nat} {e0 : Int} (h : gm_at mi pc = some .aaload) (hk : 1 ≤ k ∧ k ≤ n) (hK : K k = (3, len)) (hl : len < 2147483648) (hi : 0 ≤ e0 ∧ e0 < (len : Int)) (hx : R k e0 = r) : gm_Sp X LX d mi pc L (gm_vi e0 :: gm_vr k :: st) n K R M (pc + 1) L (gm_vr r :: st) n K R M 0 0 := by
  have hw : gm_w e0 = e0 := gm_w_id (by omega) (by omega)
  have := gm_p_aald (X := X) (LX := LX) (d := d) (L := L) (st := st) (K := K) (R := R) (M := M) h hk (by rw [hK]) (by rw [hw, hK]; exact hi)
  rwa [hw, hx] at this
theorem ks_3 (hE : E0 n K R) : KS n K R 3 := ⟨e0k hE (k := 3) (c := 1) (by decide +kernel), ⟨⟨e0k hE (k := 4) (c := 2) (by decide +kernel), e0a hE (k := 5) (q := (0, 56)) (by decide +kernel)⟩, e0r hE (k := 3) (j := 9) (r := 4) (by decide +kernel), e0r hE (k := 4) (j := 2) (r := 5) (by decide +kernel)⟩, ⟨⟨e0k hE (k := 6) (c := 2) (by decide +kernel), e0a hE (k := 7) (q := (0, 24)) (by decide +kernel)⟩, e0r hE (k := 3) (j := 10) (r := 6) (by decide +kernel), e0r hE (k := 6) (j := 2) (r := 7) (by decide +kernel)⟩, ⟨⟨e0k hE (k := 8) (c := 2) (by decide +kernel), e0a hE (k := 9) (q := (0, 24)) (by decide +kernel)⟩, e0r hE (k := 3) (j := 11) (r := 8) (by decide +kernel), e0r hE (k := 8) (j := 2) (r := 9) (by decide +kernel)⟩, ⟨⟨e0k hE (k := 10) (c := 2) (by decide +kernel), e0a hE (k := 11) (q := (0, 168)) (by decide +kernel)⟩, e0r hE (k := 3) (j := 12) (r := 10) (by decide +kernel), e0r hE (k := 10) (j := 2) (r := 11) (by decide +kernel)⟩, ⟨⟨e0k hE (k := 12) (c := 2) (by decide +kernel), e0a hE (k := 13) (q := (0, 36)) (by decide +kernel)⟩, e0r hE (k := 3) (j := 13) (r := 12) (by decide +kernel), e0r hE (k := 12) (j := 2) (r := 13) (by decide +kernel)⟩, ⟨⟨e0k hE (k := 14) (c := 2) (by decide +kernel), e0a hE (k := 15) (q := (0, 72)) (by decide +kernel)⟩, e0r hE (k := 3) (j := 14) (r := 14) (by decide +kernel), e0r hE (k := 14) (j := 2) (r := 15) (by decide +kernel)⟩⟩
theorem mx_3 (hC : CST M) : MX M 3 := ⟨hC (4, 0, 8) (by decide), hC (6, 0, 8) (by decide), hC (8, 0, 8) (by decide), hC (10, 0, 24) (by decide), hC (12, 0, 6) (by decide), hC (14, 0, 24) (by decide)⟩
theorem ks_29 (hE : E0 n K R) : KS n K R 29 := ⟨e0k hE (k := 29) (c := 1) (by decide +kernel), ⟨⟨e0k hE (k := 30) (c := 2) (by decide +kernel), e0a hE (k := 31) (q := (0, 56)) (by decide +kernel)⟩, e0r hE (k := 29) (j := 9) (r := 30) (by decide +kernel), e0r hE (k := 30) (j := 2) (r := 31) (by decide +kernel)⟩, ⟨⟨e0k hE (k := 32) (c := 2) (by decide +kernel), e0a hE (k := 33) (q := (0, 24)) (by decide +kernel)⟩, e0r hE (k := 29) (j := 10) (r := 32) (by decide +kernel), e0r hE (k := 32) (j := 2) (r := 33) (by decide +kernel)⟩, ⟨⟨e0k hE (k := 34) (c := 2) (by decide +kernel), e0a hE (k := 35) (q := (0, 24)) (by decide +kernel)⟩, e0r hE (k := 29) (j := 11) (r := 34) (by decide +kernel), e0r hE (k := 34) (j := 2) (r := 35) (by decide +kernel)⟩, ⟨⟨e0k hE (k := 36) (c := 2) (by decide +kernel), e0a hE (k := 37) (q := (0, 168)) (by decide +kernel)⟩, e0r hE (k := 29) (j := 12) (r := 36) (by decide +kernel), e0r hE (k := 36) (j := 2) (r := 37) (by decide +kernel)⟩, ⟨⟨e0k hE (k := 38) (c := 2) (by decide +kernel), e0a hE (k := 39) (q := (0, 36)) (by decide +kernel)⟩, e0r hE (k := 29) (j := 13) (r := 38) (by decide +kernel), e0r hE (k := 38) (j := 2) (r := 39) (by decide +kernel)⟩, ⟨⟨e0k hE (k := 40) (c := 2) (by decide +kernel), e0a hE (k := 41) (q := (0, 72)) (by decide +kernel)⟩, e0r hE (k := 29) (j := 14) (r := 40) (by decide +kernel), e0r hE (k := 40) (j := 2) (r := 41) (by decide +kernel)⟩⟩
theorem mx_29 (hC : CST M) : MX M 29 := ⟨hC (30, 0, 8) (by decide), hC (32, 0, 8) (by decide), hC (34, 0, 8) (by decide), hC (36, 0, 24) (by decide), hC (38, 0, 6) (by decide), hC (40, 0, 24) (by decide)⟩
theorem ks_44 (hE : E0 n K R) : KS n K R 44 := ⟨e0k hE (k := 44) (c := 1) (by decide +kernel), ⟨⟨e0k hE (k := 45) (c := 2) (by decide +kernel), e0a hE (k := 46) (q := (0, 56)) (by decide +kernel)⟩, e0r hE (k := 44) (j := 9) (r := 45) (by decide +kernel), e0r hE (k := 45) (j := 2) (r := 46) (by decide +kernel)⟩, ⟨⟨e0k hE (k := 47) (c := 2) (by decide +kernel), e0a hE (k := 48) (q := (0, 24)) (by decide +kernel)⟩, e0r hE (k := 44) (j := 10) (r := 47) (by decide +kernel), e0r hE (k := 47) (j := 2) (r := 48) (by decide +kernel)⟩, ⟨⟨e0k hE (k := 49) (c := 2) (by decide +kernel), e0a hE (k := 50) (q := (0, 24)) (by decide +kernel)⟩, e0r hE (k := 44) (j := 11) (r := 49) (by decide +kernel), e0r hE (k := 49) (j := 2) (r := 50) (by decide +kernel)⟩, ⟨⟨e0k hE (k := 51) (c := 2) (by decide +kernel), e0a hE (k := 52) (q := (0, 168)) (by decide +kernel)⟩, e0r hE (k := 44) (j := 12) (r := 51) (by decide +kernel), e0r hE (k := 51) (j := 2) (r := 52) (by decide +kernel)⟩, ⟨⟨e0k hE (k := 53) (c := 2) (by decide +kernel), e0a hE (k := 54) (q := (0, 36)) (by decide +kernel)⟩, e0r hE (k := 44) (j := 13) (r := 53) (by decide +kernel), e0r hE (k := 53) (j := 2) (r := 54) (by decide +kernel)⟩, ⟨⟨e0k hE (k := 55) (c := 2) (by decide +kernel), e0a hE (k := 56) (q := (0, 72)) (by decide +kernel)⟩, e0r hE (k := 44) (j := 14) (r := 55) (by decide +kernel), e0r hE (k := 55) (j := 2) (r := 56) (by decide +kernel)⟩⟩
theorem mx_44 (hC : CST M) : MX M 44 := ⟨hC (45, 0, 8) (by decide), hC (47, 0, 8) (by decide), hC (49, 0, 8) (by decide), hC (51, 0, 24) (by decide), hC (53, 0, 6) (by decide), hC (55, 0, 24) (by decide)⟩
theorem ks_57 (hE : E0 n K R) : KS n K R 57 := ⟨e0k hE (k := 57) (c := 1) (by decide +kernel), ⟨⟨e0k hE (k := 58) (c := 2) (by decide +kernel), e0a hE (k := 59) (q := (0, 56)) (by decide +kernel)⟩, e0r hE (k := 57) (j := 9) (r := 58) (by decide +kernel), e0r hE (k := 58) (j := 2) (r := 59) (by decide +kernel)⟩, ⟨⟨e0k hE (k := 60) (c := 2) (by decide +kernel), e0a hE (k := 61) (q := (0, 24)) (by decide +kernel)⟩, e0r hE (k := 57) (j := 10) (r := 60) (by decide +kernel), e0r hE (k := 60) (j := 2) (r := 61) (by decide +kernel)⟩, ⟨⟨e0k hE (k := 62) (c := 2) (by decide +kernel), e0a hE (k := 63) (q := (0, 24)) (by decide +kernel)⟩, e0r hE (k := 57) (j := 11) (r := 62) (by decide +kernel), e0r hE (k := 62) (j := 2) (r := 63) (by decide +kernel)⟩, ⟨⟨e0k hE (k := 64) (c := 2) (by decide +kernel), e0a hE (k := 65) (q := (0, 168)) (by decide +kernel)⟩, e0r hE (k := 57) (j := 12) (r := 64) (by decide +kernel), e0r hE (k := 64) (j := 2) (r := 65) (by decide +kernel)⟩, ⟨⟨e0k hE (k := 66) (c := 2) (by decide +kernel), e0a hE (k := 67) (q := (0, 36)) (by decide +kernel)⟩, e0r hE (k := 57) (j := 13) (r := 66) (by decide +kernel), e0r hE (k := 66) (j := 2) (r := 67) (by decide +kernel)⟩, ⟨⟨e0k hE (k := 68) (c := 2) (by decide +kernel), e0a hE (k := 69) (q := (0, 72)) (by decide +kernel)⟩, e0r hE (k := 57) (j := 14) (r := 68) (by decide +kernel), e0r hE (k := 68) (j := 2) (r := 69) (by decide +kernel)⟩⟩
theorem mx_57 (hC : CST M) : MX M 57 := ⟨hC (58, 0, 8) (by decide), hC (60, 0, 8) (by decide), hC (62, 0, 8) (by decide), hC (64, 0, 24) (by decide), hC (66, 0, 6) (by decide), hC (68, 0, 24) (by decide)⟩
theorem ks_70 (hE : E0 n K R) : KS n K R 70 := ⟨e0k hE (k := 70) (c := 1) (by decide +kernel), ⟨⟨e0k hE (k := 71) (c := 2) (by decide +kernel), e0a hE (k := 72) (q := (0, 56)) (by decide +kernel)⟩, e0r hE (k := 70) (j := 9) (r := 71) (by decide +kernel), e0r hE (k := 71) (j := 2) (r := 72) (by decide +kernel)⟩, ⟨⟨e0k hE (k := 73) (c := 2) (by decide +kernel), e0a hE (k := 74) (q := (0, 24)) (by decide +kernel)⟩, e0r hE (k := 70) (j := 10) (r := 73) (by decide +kernel), e0r hE (k := 73) (j := 2) (r := 74) (by decide +kernel)⟩, ⟨⟨e0k hE (k := 75) (c := 2) (by decide +kernel), e0a hE (k := 76) (q := (0, 24)) (by decide +kernel)⟩, e0r hE (k := 70) (j := 11) (r := 75) (by decide +kernel), e0r hE (k := 75) (j := 2) (r := 76) (by decide +kernel)⟩, ⟨⟨e0k hE (k := 77) (c := 2) (by decide +kernel), e0a hE (k := 78) (q := (0, 168)) (by decide +kernel)⟩, e0r hE (k := 70) (j := 12) (r := 77) (by decide +kernel), e0r hE (k := 77) (j := 2) (r := 78) (by decide +kernel)⟩, ⟨⟨e0k hE (k := 79) (c := 2) (by decide +kernel), e0a hE (k := 80) (q := (0, 36)) (by decide +kernel)⟩, e0r hE (k := 70) (j := 13) (r := 79) (by decide +kernel), e0r hE (k := 79) (j := 2) (r := 80) (by decide +kernel)⟩, ⟨⟨e0k hE (k := 81) (c := 2) (by decide +kernel), e0a hE (k := 82) (q := (0, 72)) (by decide +kernel)⟩, e0r hE (k := 70) (j := 14) (r := 81) (by decide +kernel), e0r hE (k := 81) (j := 2) (r := 82) (by decide +kernel)⟩⟩
theorem mx_70 (hC : CST M) : MX M 70 := ⟨hC (71, 0, 8) (by decide), hC (73, 0, 8) (by decide), hC (75, 0, 8) (by decide), hC (77, 0, 24) (by decide), hC (79, 0, 6) (by decide), hC (81, 0, 24) (by decide)⟩
theorem ks_83 (hE : E0 n K R) : KS n K R 83 := ⟨e0k hE (k := 83) (c := 1) (by decide +kernel), ⟨⟨e0k hE (k := 84) (c := 2) (by decide +kernel), e0a hE (k := 85) (q := (0, 56)) (by decide +kernel)⟩, e0r hE (k := 83) (j := 9) (r := 84) (by decide +kernel), e0r hE (k := 84) (j := 2) (r := 85) (by decide +kernel)⟩, ⟨⟨e0k hE (k := 86) (c := 2) (by decide +kernel), e0a hE (k := 87) (q := (0, 24)) (by decide +kernel)⟩, e0r hE (k := 83) (j := 10) (r := 86) (by decide +kernel), e0r hE (k := 86) (j := 2) (r := 87) (by decide +kernel)⟩, ⟨⟨e0k hE (k := 88) (c := 2) (by decide +kernel), e0a hE (k := 89) (q := (0, 24)) (by decide +kernel)⟩, e0r hE (k := 83) (j := 11) (r := 88) (by decide +kernel), e0r hE (k := 88) (j := 2) (r := 89) (by decide +kernel)⟩, ⟨⟨e0k hE (k := 90) (c := 2) (by decide +kernel), e0a hE (k := 91) (q := (0, 168)) (by decide +kernel)⟩, e0r hE (k := 83) (j := 12) (r := 90) (by decide +kernel), e0r hE (k := 90) (j := 2) (r := 91) (by decide +kernel)⟩, ⟨⟨e0k hE (k := 92) (c := 2) (by decide +kernel), e0a hE (k := 93) (q := (0, 36)) (by decide +kernel)⟩, e0r hE (k := 83) (j := 13) (r := 92) (by decide +kernel), e0r hE (k := 92) (j := 2) (r := 93) (by decide +kernel)⟩, ⟨⟨e0k hE (k := 94) (c := 2) (by decide +kernel), e0a hE (k := 95) (q := (0, 72)) (by decide +kernel)⟩, e0r hE (k := 83) (j := 14) (r := 94) (by decide +kernel), e0r hE (k := 94) (j := 2) (r := 95) (by decide +kernel)⟩⟩
theorem mx_83 (hC : CST M) : MX M 83 := ⟨hC (84, 0, 8) (by decide), hC (86, 0, 8) (by decide), hC (88, 0, 8) (by decide), hC (90, 0, 24) (by decide), hC (92, 0, 6) (by decide), hC (94, 0, 24) (by decide)⟩
theorem ks_96 (hE : E0 n K R) : KS n K R 96 := ⟨e0k hE (k := 96) (c := 1) (by decide +kernel), ⟨⟨e0k hE (k := 97) (c := 2) (by decide +kernel), e0a hE (k := 98) (q := (0, 56)) (by decide +kernel)⟩, e0r hE (k := 96) (j := 9) (r := 97) (by decide +kernel), e0r hE (k := 97) (j := 2) (r := 98) (by decide +kernel)⟩, ⟨⟨e0k hE (k := 99) (c := 2) (by decide +kernel), e0a hE (k := 100) (q := (0, 24)) (by decide +kernel)⟩, e0r hE (k := 96) (j := 10) (r := 99) (by decide +kernel), e0r hE (k := 99) (j := 2) (r := 100) (by decide +kernel)⟩, ⟨⟨e0k hE (k := 101) (c := 2) (by decide +kernel), e0a hE (k := 102) (q := (0, 24)) (by decide +kernel)⟩, e0r hE (k := 96) (j := 11) (r := 101) (by decide +kernel), e0r hE (k := 101) (j := 2) (r := 102) (by decide +kernel)⟩, ⟨⟨e0k hE (k := 103) (c := 2) (by decide +kernel), e0a hE (k := 104) (q := (0, 168)) (by decide +kernel)⟩, e0r hE (k := 96) (j := 12) (r := 103) (by decide +kernel), e0r hE (k := 103) (j := 2) (r := 104) (by decide +kernel)⟩, ⟨⟨e0k hE (k := 105) (c := 2) (by decide +kernel), e0a hE (k := 106) (q := (0, 36)) (by decide +kernel)⟩, e0r hE (k := 96) (j := 13) (r := 105) (by decide +kernel), e0r hE (k := 105) (j := 2) (r := 106) (by decide +kernel)⟩, ⟨⟨e0k hE (k := 107) (c := 2) (by decide +kernel), e0a hE (k := 108) (q := (0, 72)) (by decide +kernel)⟩, e0r hE (k := 96) (j := 14) (r := 107) (by decide +kernel), e0r hE (k := 107) (j := 2) (r := 108) (by decide +kernel)⟩⟩
theorem mx_96 (hC : CST M) : MX M 96 := ⟨hC (97, 0, 8) (by decide), hC (99, 0, 8) (by decide), hC (101, 0, 8) (by decide), hC (103, 0, 24) (by decide), hC (105, 0, 6) (by decide), hC (107, 0, 24) (by decide)⟩
theorem ks_109 (hE : E0 n K R) : KS n K R 109 := ⟨e0k hE (k := 109) (c := 1) (by decide +kernel), ⟨⟨e0k hE (k := 110) (c := 2) (by decide +kernel), e0a hE (k := 111) (q := (0, 56)) (by decide +kernel)⟩, e0r hE (k := 109) (j := 9) (r := 110) (by decide +kernel), e0r hE (k := 110) (j := 2) (r := 111) (by decide +kernel)⟩, ⟨⟨e0k hE (k := 112) (c := 2) (by decide +kernel), e0a hE (k := 113) (q := (0, 24)) (by decide +kernel)⟩, e0r hE (k := 109) (j := 10) (r := 112) (by decide +kernel), e0r hE (k := 112) (j := 2) (r := 113) (by decide +kernel)⟩, ⟨⟨e0k hE (k := 114) (c := 2) (by decide +kernel), e0a hE (k := 115) (q := (0, 24)) (by decide +kernel)⟩, e0r hE (k := 109) (j := 11) (r := 114) (by decide +kernel), e0r hE (k := 114) (j := 2) (r := 115) (by decide +kernel)⟩, ⟨⟨e0k hE (k := 116) (c := 2) (by decide +kernel), e0a hE (k := 117) (q := (0, 168)) (by decide +kernel)⟩, e0r hE (k := 109) (j := 12) (r := 116) (by decide +kernel), e0r hE (k := 116) (j := 2) (r := 117) (by decide +kernel)⟩, ⟨⟨e0k hE (k := 118) (c := 2) (by decide +kernel), e0a hE (k := 119) (q := (0, 36)) (by decide +kernel)⟩, e0r hE (k := 109) (j := 13) (r := 118) (by decide +kernel), e0r hE (k := 118) (j := 2) (r := 119) (by decide +kernel)⟩, ⟨⟨e0k hE (k := 120) (c := 2) (by decide +kernel), e0a hE (k := 121) (q := (0, 72)) (by decide +kernel)⟩, e0r hE (k := 109) (j := 14) (r := 120) (by decide +kernel), e0r hE (k := 120) (j := 2) (r := 121) (by decide +kernel)⟩⟩
theorem mx_109 (hC : CST M) : MX M 109 := ⟨hC (110, 0, 8) (by decide), hC (112, 0, 8) (by decide), hC (114, 0, 8) (by decide), hC (116, 0, 24) (by decide), hC (118, 0, 6) (by decide), hC (120, 0, 24) (by decide)⟩
theorem ks_122 (hE : E0 n K R) : KS n K R 122 := ⟨e0k hE (k := 122) (c := 1) (by decide +kernel), ⟨⟨e0k hE (k := 123) (c := 2) (by decide +kernel), e0a hE (k := 124) (q := (0, 56)) (by decide +kernel)⟩, e0r hE (k := 122) (j := 9) (r := 123) (by decide +kernel), e0r hE (k := 123) (j := 2) (r := 124) (by decide +kernel)⟩, ⟨⟨e0k hE (k := 125) (c := 2) (by decide +kernel), e0a hE (k := 126) (q := (0, 24)) (by decide +kernel)⟩, e0r hE (k := 122) (j := 10) (r := 125) (by decide +kernel), e0r hE (k := 125) (j := 2) (r := 126) (by decide +kernel)⟩, ⟨⟨e0k hE (k := 127) (c := 2) (by decide +kernel), e0a hE (k := 128) (q := (0, 24)) (by decide +kernel)⟩, e0r hE (k := 122) (j := 11) (r := 127) (by decide +kernel), e0r hE (k := 127) (j := 2) (r := 128) (by decide +kernel)⟩, ⟨⟨e0k hE (k := 129) (c := 2) (by decide +kernel), e0a hE (k := 130) (q := (0, 168)) (by decide +kernel)⟩, e0r hE (k := 122) (j := 12) (r := 129) (by decide +kernel), e0r hE (k := 129) (j := 2) (r := 130) (by decide +kernel)⟩, ⟨⟨e0k hE (k := 131) (c := 2) (by decide +kernel), e0a hE (k := 132) (q := (0, 36)) (by decide +kernel)⟩, e0r hE (k := 122) (j := 13) (r := 131) (by decide +kernel), e0r hE (k := 131) (j := 2) (r := 132) (by decide +kernel)⟩, ⟨⟨e0k hE (k := 133) (c := 2) (by decide +kernel), e0a hE (k := 134) (q := (0, 72)) (by decide +kernel)⟩, e0r hE (k := 122) (j := 14) (r := 133) (by decide +kernel), e0r hE (k := 133) (j := 2) (r := 134) (by decide +kernel)⟩⟩
theorem mx_122 (hC : CST M) : MX M 122 := ⟨hC (123, 0, 8) (by decide), hC (125, 0, 8) (by decide), hC (127, 0, 8) (by decide), hC (129, 0, 24) (by decide), hC (131, 0, 6) (by decide), hC (133, 0, 24) (by decide)⟩
theorem ks_135 (hE : E0 n K R) : KS n K R 135 := ⟨e0k hE (k := 135) (c := 1) (by decide +kernel), ⟨⟨e0k hE (k := 136) (c := 2) (by decide +kernel), e0a hE (k := 137) (q := (0, 56)) (by decide +kernel)⟩, e0r hE (k := 135) (j := 9) (r := 136) (by decide +kernel), e0r hE (k := 136) (j := 2) (r := 137) (by decide +kernel)⟩, ⟨⟨e0k hE (k := 138) (c := 2) (by decide +kernel), e0a hE (k := 139) (q := (0, 24)) (by decide +kernel)⟩, e0r hE (k := 135) (j := 10) (r := 138) (by decide +kernel), e0r hE (k := 138) (j := 2) (r := 139) (by decide +kernel)⟩, ⟨⟨e0k hE (k := 140) (c := 2) (by decide +kernel), e0a hE (k := 141) (q := (0, 24)) (by decide +kernel)⟩, e0r hE (k := 135) (j := 11) (r := 140) (by decide +kernel), e0r hE (k := 140) (j := 2) (r := 141) (by decide +kernel)⟩, ⟨⟨e0k hE (k := 142) (c := 2) (by decide +kernel), e0a hE (k := 143) (q := (0, 168)) (by decide +kernel)⟩, e0r hE (k := 135) (j := 12) (r := 142) (by decide +kernel), e0r hE (k := 142) (j := 2) (r := 143) (by decide +kernel)⟩, ⟨⟨e0k hE (k := 144) (c := 2) (by decide +kernel), e0a hE (k := 145) (q := (0, 36)) (by decide +kernel)⟩, e0r hE (k := 135) (j := 13) (r := 144) (by decide +kernel), e0r hE (k := 144) (j := 2) (r := 145) (by decide +kernel)⟩, ⟨⟨e0k hE (k := 146) (c := 2) (by decide +kernel), e0a hE (k := 147) (q := (0, 72)) (by decide +kernel)⟩, e0r hE (k := 135) (j := 14) (r := 146) (by decide +kernel), e0r hE (k := 146) (j := 2) (r := 147) (by decide +kernel)⟩⟩
theorem mx_135 (hC : CST M) : MX M 135 := ⟨hC (136, 0, 8) (by decide), hC (138, 0, 8) (by decide), hC (140, 0, 8) (by decide), hC (142, 0, 24) (by decide), hC (144, 0, 6) (by decide), hC (146, 0, 24) (by decide)⟩
theorem ks_148 (hE : E0 n K R) : KS n K R 148 := ⟨e0k hE (k := 148) (c := 1) (by decide +kernel), ⟨⟨e0k hE (k := 149) (c := 2) (by decide +kernel), e0a hE (k := 150) (q := (0, 56)) (by decide +kernel)⟩, e0r hE (k := 148) (j := 9) (r := 149) (by decide +kernel), e0r hE (k := 149) (j := 2) (r := 150) (by decide +kernel)⟩, ⟨⟨e0k hE (k := 151) (c := 2) (by decide +kernel), e0a hE (k := 152) (q := (0, 24)) (by decide +kernel)⟩, e0r hE (k := 148) (j := 10) (r := 151) (by decide +kernel), e0r hE (k := 151) (j := 2) (r := 152) (by decide +kernel)⟩, ⟨⟨e0k hE (k := 153) (c := 2) (by decide +kernel), e0a hE (k := 154) (q := (0, 24)) (by decide +kernel)⟩, e0r hE (k := 148) (j := 11) (r := 153) (by decide +kernel), e0r hE (k := 153) (j := 2) (r := 154) (by decide +kernel)⟩, ⟨⟨e0k hE (k := 155) (c := 2) (by decide +kernel), e0a hE (k := 156) (q := (0, 168)) (by decide +kernel)⟩, e0r hE (k := 148) (j := 12) (r := 155) (by decide +kernel), e0r hE (k := 155) (j := 2) (r := 156) (by decide +kernel)⟩, ⟨⟨e0k hE (k := 157) (c := 2) (by decide +kernel), e0a hE (k := 158) (q := (0, 36)) (by decide +kernel)⟩, e0r hE (k := 148) (j := 13) (r := 157) (by decide +kernel), e0r hE (k := 157) (j := 2) (r := 158) (by decide +kernel)⟩, ⟨⟨e0k hE (k := 159) (c := 2) (by decide +kernel), e0a hE (k := 160) (q := (0, 72)) (by decide +kernel)⟩, e0r hE (k := 148) (j := 14) (r := 159) (by decide +kernel), e0r hE (k := 159) (j := 2) (r := 160) (by decide +kernel)⟩⟩
theorem mx_148 (hC : CST M) : MX M 148 := ⟨hC (149, 0, 8) (by decide), hC (151, 0, 8) (by decide), hC (153, 0, 8) (by decide), hC (155, 0, 24) (by decide), hC (157, 0, 6) (by decide), hC (159, 0, 24) (by decide)⟩
theorem ks_161 (hE : E0 n K R) : KS n K R 161 := ⟨e0k hE (k := 161) (c := 1) (by decide +kernel), ⟨⟨e0k hE (k := 162) (c := 2) (by decide +kernel), e0a hE (k := 163) (q := (0, 56)) (by decide +kernel)⟩, e0r hE (k := 161) (j := 9) (r := 162) (by decide +kernel), e0r hE (k := 162) (j := 2) (r := 163) (by decide +kernel)⟩, ⟨⟨e0k hE (k := 164) (c := 2) (by decide +kernel), e0a hE (k := 165) (q := (0, 24)) (by decide +kernel)⟩, e0r hE (k := 161) (j := 10) (r := 164) (by decide +kernel), e0r hE (k := 164) (j := 2) (r := 165) (by decide +kernel)⟩, ⟨⟨e0k hE (k := 166) (c := 2) (by decide +kernel), e0a hE (k := 167) (q := (0, 24)) (by decide +kernel)⟩, e0r hE (k := 161) (j := 11) (r := 166) (by decide +kernel), e0r hE (k := 166) (j := 2) (r := 167) (by decide +kernel)⟩, ⟨⟨e0k hE (k := 168) (c := 2) (by decide +kernel), e0a hE (k := 169) (q := (0, 168)) (by decide +kernel)⟩, e0r hE (k := 161) (j := 12) (r := 168) (by decide +kernel), e0r hE (k := 168) (j := 2) (r := 169) (by decide +kernel)⟩, ⟨⟨e0k hE (k := 170) (c := 2) (by decide +kernel), e0a hE (k := 171) (q := (0, 36)) (by decide +kernel)⟩, e0r hE (k := 161) (j := 13) (r := 170) (by decide +kernel), e0r hE (k := 170) (j := 2) (r := 171) (by decide +kernel)⟩, ⟨⟨e0k hE (k := 172) (c := 2) (by decide +kernel), e0a hE (k := 173) (q := (0, 72)) (by decide +kernel)⟩, e0r hE (k := 161) (j := 14) (r := 172) (by decide +kernel), e0r hE (k := 172) (j := 2) (r := 173) (by decide +kernel)⟩⟩
theorem mx_161 (hC : CST M) : MX M 161 := ⟨hC (162, 0, 8) (by decide), hC (164, 0, 8) (by decide), hC (166, 0, 8) (by decide), hC (168, 0, 24) (by decide), hC (170, 0, 6) (by decide), hC (172, 0, 24) (by decide)⟩
theorem ks_174 (hE : E0 n K R) : KS n K R 174 := ⟨e0k hE (k := 174) (c := 1) (by decide +kernel), ⟨⟨e0k hE (k := 175) (c := 2) (by decide +kernel), e0a hE (k := 176) (q := (0, 56)) (by decide +kernel)⟩, e0r hE (k := 174) (j := 9) (r := 175) (by decide +kernel), e0r hE (k := 175) (j := 2) (r := 176) (by decide +kernel)⟩, ⟨⟨e0k hE (k := 177) (c := 2) (by decide +kernel), e0a hE (k := 178) (q := (0, 24)) (by decide +kernel)⟩, e0r hE (k := 174) (j := 10) (r := 177) (by decide +kernel), e0r hE (k := 177) (j := 2) (r := 178) (by decide +kernel)⟩, ⟨⟨e0k hE (k := 179) (c := 2) (by decide +kernel), e0a hE (k := 180) (q := (0, 24)) (by decide +kernel)⟩, e0r hE (k := 174) (j := 11) (r := 179) (by decide +kernel), e0r hE (k := 179) (j := 2) (r := 180) (by decide +kernel)⟩, ⟨⟨e0k hE (k := 181) (c := 2) (by decide +kernel), e0a hE (k := 182) (q := (0, 168)) (by decide +kernel)⟩, e0r hE (k := 174) (j := 12) (r := 181) (by decide +kernel), e0r hE (k := 181) (j := 2) (r := 182) (by decide +kernel)⟩, ⟨⟨e0k hE (k := 183) (c := 2) (by decide +kernel), e0a hE (k := 184) (q := (0, 36)) (by decide +kernel)⟩, e0r hE (k := 174) (j := 13) (r := 183) (by decide +kernel), e0r hE (k := 183) (j := 2) (r := 184) (by decide +kernel)⟩, ⟨⟨e0k hE (k := 185) (c := 2) (by decide +kernel), e0a hE (k := 186) (q := (0, 72)) (by decide +kernel)⟩, e0r hE (k := 174) (j := 14) (r := 185) (by decide +kernel), e0r hE (k := 185) (j := 2) (r := 186) (by decide +kernel)⟩⟩
theorem mx_174 (hC : CST M) : MX M 174 := ⟨hC (175, 0, 8) (by decide), hC (177, 0, 8) (by decide), hC (179, 0, 8) (by decide), hC (181, 0, 24) (by decide), hC (183, 0, 6) (by decide), hC (185, 0, 24) (by decide)⟩
theorem ks_187 (hE : E0 n K R) : KS n K R 187 := ⟨e0k hE (k := 187) (c := 1) (by decide +kernel), ⟨⟨e0k hE (k := 188) (c := 2) (by decide +kernel), e0a hE (k := 189) (q := (0, 56)) (by decide +kernel)⟩, e0r hE (k := 187) (j := 9) (r := 188) (by decide +kernel), e0r hE (k := 188) (j := 2) (r := 189) (by decide +kernel)⟩, ⟨⟨e0k hE (k := 190) (c := 2) (by decide +kernel), e0a hE (k := 191) (q := (0, 24)) (by decide +kernel)⟩, e0r hE (k := 187) (j := 10) (r := 190) (by decide +kernel), e0r hE (k := 190) (j := 2) (r := 191) (by decide +kernel)⟩, ⟨⟨e0k hE (k := 192) (c := 2) (by decide +kernel), e0a hE (k := 193) (q := (0, 24)) (by decide +kernel)⟩, e0r hE (k := 187) (j := 11) (r := 192) (by decide +kernel), e0r hE (k := 192) (j := 2) (r := 193) (by decide +kernel)⟩, ⟨⟨e0k hE (k := 194) (c := 2) (by decide +kernel), e0a hE (k := 195) (q := (0, 168)) (by decide +kernel)⟩, e0r hE (k := 187) (j := 12) (r := 194) (by decide +kernel), e0r hE (k := 194) (j := 2) (r := 195) (by decide +kernel)⟩, ⟨⟨e0k hE (k := 196) (c := 2) (by decide +kernel), e0a hE (k := 197) (q := (0, 36)) (by decide +kernel)⟩, e0r hE (k := 187) (j := 13) (r := 196) (by decide +kernel), e0r hE (k := 196) (j := 2) (r := 197) (by decide +kernel)⟩, ⟨⟨e0k hE (k := 198) (c := 2) (by decide +kernel), e0a hE (k := 199) (q := (0, 72)) (by decide +kernel)⟩, e0r hE (k := 187) (j := 14) (r := 198) (by decide +kernel), e0r hE (k := 198) (j := 2) (r := 199) (by decide +kernel)⟩⟩
theorem mx_187 (hC : CST M) : MX M 187 := ⟨hC (188, 0, 8) (by decide), hC (190, 0, 8) (by decide), hC (192, 0, 8) (by decide), hC (194, 0, 24) (by decide), hC (196, 0, 6) (by decide), hC (198, 0, 24) (by decide)⟩
theorem p12 (h : 0 ≤ p ∧ p < 12) : p = 0 ∨ p = 1 ∨ p = 2 ∨ p = 3 ∨ p = 4 ∨ p = 5 ∨ p = 6 ∨ p = 7 ∨ p = 8 ∨ p = 9 ∨ p = 10 ∨ p = 11 := by omega
theorem ks_p (hE : E0 n K R) (h : 0 ≤ p ∧ p < 12) : KS n K R (44 + 13 * p.toNat) := by
  rcases p12 h with rfl | rfl | rfl | rfl | rfl | rfl | rfl | rfl | rfl | rfl | rfl | rfl
  · exact ks_44 hE
  · exact ks_57 hE
  · exact ks_70 hE
  · exact ks_83 hE
  · exact ks_96 hE
  · exact ks_109 hE
  · exact ks_122 hE
  · exact ks_135 hE
  · exact ks_148 hE
  · exact ks_161 hE
  · exact ks_174 hE
  · exact ks_187 hE
theorem mx_p (hC : CST M) (h : 0 ≤ p ∧ p < 12) : MX M (44 + 13 * p.toNat) := by
  rcases p12 h with rfl | rfl | rfl | rfl | rfl | rfl | rfl | rfl | rfl | rfl | rfl | rfl
  · exact mx_44 hC
  · exact mx_57 hC
  · exact mx_70 hC
  · exact mx_83 hC
  · exact mx_96 hC
  · exact mx_109 hC
  · exact mx_122 hC
  · exact mx_135 hC
  · exact mx_148 hC
  · exact mx_161 hC
  · exact mx_174 hC
  · exact mx_187 hC
theorem hi_at (hE : E0 n K R) (h : 0 ≤ p ∧ p < 12) (hq : Q (.inl (some (gm_vr (44 + 13 * p.toNat)))) n K R M) : gm_Wp X LX d bc bs 56 0 (gm_ent 56 [gm_vr 42, gm_vi p]) [] n K R M Q := by
  rcases p12 h with rfl | rfl | rfl | rfl | rfl | rfl | rfl | rfl | rfl | rfl | rfl | rfl
  · refine gm_sz (gm_p_load (pc := 0) (i := .iload_n 1) (sr := 0) (j := 1) (by decide +kernel) rfl rfl rfl) ?_
    refine fw_iffd (cc := .lt) (pc := 1) (off := 21) (by decide +kernel) (by decide) ⟨by decide, by decide⟩ (by decide) ?_
    refine gm_sz (gm_p_load (pc := 4) (i := .iload_n 1) (sr := 0) (j := 1) (by decide +kernel) rfl rfl rfl) ?_
    refine gm_sz (gm_p_load (pc := 5) (i := .aload_n 0) (sr := 2) (j := 0) (by decide +kernel) rfl rfl rfl) ?_
    refine gm_sz (fw_gr (pc := 6) (ix := 11) (ci := 3) (j := 0) (r := 43) (by decide +kernel) (e0k hE (k := 42) (c := 3) (by decide +kernel)) (by decide +kernel) (by decide +kernel) (e0r hE (k := 42) (j := 0) (r := 43) (by decide +kernel))) ?_
    refine gm_sz (fw_al (pc := 9) (k := 43) (len := 12) (by decide +kernel) (e0a hE (k := 43) (q := (3, 12)) (by decide +kernel)).1 (e0a hE (k := 43) (q := (3, 12)) (by decide +kernel)).2 (by decide)) ?_
    refine fw_icfd (cc := .ge) (pc := 10) (off := 12) (by decide +kernel) (by decide) ⟨by decide, by decide⟩ ⟨by decide, by decide⟩ (by decide) ?_
    refine gm_sz (gm_p_load (pc := 13) (i := .aload_n 0) (sr := 2) (j := 0) (by decide +kernel) rfl rfl rfl) ?_
    refine gm_sz (fw_gr (pc := 14) (ix := 11) (ci := 3) (j := 0) (r := 43) (by decide +kernel) (e0k hE (k := 42) (c := 3) (by decide +kernel)) (by decide +kernel) (by decide +kernel) (e0r hE (k := 42) (j := 0) (r := 43) (by decide +kernel))) ?_
    refine gm_sz (gm_p_load (pc := 17) (i := .iload_n 1) (sr := 0) (j := 1) (by decide +kernel) rfl rfl rfl) ?_
    refine gm_sz (fw_aa (pc := 18) (k := 43) (len := 12) (e0 := 0) (r := 44) (by decide +kernel) (e0a hE (k := 43) (q := (3, 12)) (by decide +kernel)).1 (e0a hE (k := 43) (q := (3, 12)) (by decide +kernel)).2 (by decide) ⟨by decide, by decide⟩ (e0r hE (k := 43) (j := 0) (r := 44) (by decide +kernel))) ?_
    refine gm_sz (gm_p_goto (pc := 19) (off := 4) (by decide +kernel) (by decide)) ?_
    exact gm_r_ref (pc := 23) (by decide +kernel) (Or.inl ⟨"GlacierMail$State", (by decide +kernel)⟩) hq
  · refine gm_sz (gm_p_load (pc := 0) (i := .iload_n 1) (sr := 0) (j := 1) (by decide +kernel) rfl rfl rfl) ?_
    refine fw_iffd (cc := .lt) (pc := 1) (off := 21) (by decide +kernel) (by decide) ⟨by decide, by decide⟩ (by decide) ?_
    refine gm_sz (gm_p_load (pc := 4) (i := .iload_n 1) (sr := 0) (j := 1) (by decide +kernel) rfl rfl rfl) ?_
    refine gm_sz (gm_p_load (pc := 5) (i := .aload_n 0) (sr := 2) (j := 0) (by decide +kernel) rfl rfl rfl) ?_
    refine gm_sz (fw_gr (pc := 6) (ix := 11) (ci := 3) (j := 0) (r := 43) (by decide +kernel) (e0k hE (k := 42) (c := 3) (by decide +kernel)) (by decide +kernel) (by decide +kernel) (e0r hE (k := 42) (j := 0) (r := 43) (by decide +kernel))) ?_
    refine gm_sz (fw_al (pc := 9) (k := 43) (len := 12) (by decide +kernel) (e0a hE (k := 43) (q := (3, 12)) (by decide +kernel)).1 (e0a hE (k := 43) (q := (3, 12)) (by decide +kernel)).2 (by decide)) ?_
    refine fw_icfd (cc := .ge) (pc := 10) (off := 12) (by decide +kernel) (by decide) ⟨by decide, by decide⟩ ⟨by decide, by decide⟩ (by decide) ?_
    refine gm_sz (gm_p_load (pc := 13) (i := .aload_n 0) (sr := 2) (j := 0) (by decide +kernel) rfl rfl rfl) ?_
    refine gm_sz (fw_gr (pc := 14) (ix := 11) (ci := 3) (j := 0) (r := 43) (by decide +kernel) (e0k hE (k := 42) (c := 3) (by decide +kernel)) (by decide +kernel) (by decide +kernel) (e0r hE (k := 42) (j := 0) (r := 43) (by decide +kernel))) ?_
    refine gm_sz (gm_p_load (pc := 17) (i := .iload_n 1) (sr := 0) (j := 1) (by decide +kernel) rfl rfl rfl) ?_
    refine gm_sz (fw_aa (pc := 18) (k := 43) (len := 12) (e0 := 1) (r := 57) (by decide +kernel) (e0a hE (k := 43) (q := (3, 12)) (by decide +kernel)).1 (e0a hE (k := 43) (q := (3, 12)) (by decide +kernel)).2 (by decide) ⟨by decide, by decide⟩ (e0r hE (k := 43) (j := 1) (r := 57) (by decide +kernel))) ?_
    refine gm_sz (gm_p_goto (pc := 19) (off := 4) (by decide +kernel) (by decide)) ?_
    exact gm_r_ref (pc := 23) (by decide +kernel) (Or.inl ⟨"GlacierMail$State", (by decide +kernel)⟩) hq
  · refine gm_sz (gm_p_load (pc := 0) (i := .iload_n 1) (sr := 0) (j := 1) (by decide +kernel) rfl rfl rfl) ?_
    refine fw_iffd (cc := .lt) (pc := 1) (off := 21) (by decide +kernel) (by decide) ⟨by decide, by decide⟩ (by decide) ?_
    refine gm_sz (gm_p_load (pc := 4) (i := .iload_n 1) (sr := 0) (j := 1) (by decide +kernel) rfl rfl rfl) ?_
    refine gm_sz (gm_p_load (pc := 5) (i := .aload_n 0) (sr := 2) (j := 0) (by decide +kernel) rfl rfl rfl) ?_
    refine gm_sz (fw_gr (pc := 6) (ix := 11) (ci := 3) (j := 0) (r := 43) (by decide +kernel) (e0k hE (k := 42) (c := 3) (by decide +kernel)) (by decide +kernel) (by decide +kernel) (e0r hE (k := 42) (j := 0) (r := 43) (by decide +kernel))) ?_
    refine gm_sz (fw_al (pc := 9) (k := 43) (len := 12) (by decide +kernel) (e0a hE (k := 43) (q := (3, 12)) (by decide +kernel)).1 (e0a hE (k := 43) (q := (3, 12)) (by decide +kernel)).2 (by decide)) ?_
    refine fw_icfd (cc := .ge) (pc := 10) (off := 12) (by decide +kernel) (by decide) ⟨by decide, by decide⟩ ⟨by decide, by decide⟩ (by decide) ?_
    refine gm_sz (gm_p_load (pc := 13) (i := .aload_n 0) (sr := 2) (j := 0) (by decide +kernel) rfl rfl rfl) ?_
    refine gm_sz (fw_gr (pc := 14) (ix := 11) (ci := 3) (j := 0) (r := 43) (by decide +kernel) (e0k hE (k := 42) (c := 3) (by decide +kernel)) (by decide +kernel) (by decide +kernel) (e0r hE (k := 42) (j := 0) (r := 43) (by decide +kernel))) ?_
    refine gm_sz (gm_p_load (pc := 17) (i := .iload_n 1) (sr := 0) (j := 1) (by decide +kernel) rfl rfl rfl) ?_
    refine gm_sz (fw_aa (pc := 18) (k := 43) (len := 12) (e0 := 2) (r := 70) (by decide +kernel) (e0a hE (k := 43) (q := (3, 12)) (by decide +kernel)).1 (e0a hE (k := 43) (q := (3, 12)) (by decide +kernel)).2 (by decide) ⟨by decide, by decide⟩ (e0r hE (k := 43) (j := 2) (r := 70) (by decide +kernel))) ?_
    refine gm_sz (gm_p_goto (pc := 19) (off := 4) (by decide +kernel) (by decide)) ?_
    exact gm_r_ref (pc := 23) (by decide +kernel) (Or.inl ⟨"GlacierMail$State", (by decide +kernel)⟩) hq
  · refine gm_sz (gm_p_load (pc := 0) (i := .iload_n 1) (sr := 0) (j := 1) (by decide +kernel) rfl rfl rfl) ?_
    refine fw_iffd (cc := .lt) (pc := 1) (off := 21) (by decide +kernel) (by decide) ⟨by decide, by decide⟩ (by decide) ?_
    refine gm_sz (gm_p_load (pc := 4) (i := .iload_n 1) (sr := 0) (j := 1) (by decide +kernel) rfl rfl rfl) ?_
    refine gm_sz (gm_p_load (pc := 5) (i := .aload_n 0) (sr := 2) (j := 0) (by decide +kernel) rfl rfl rfl) ?_
    refine gm_sz (fw_gr (pc := 6) (ix := 11) (ci := 3) (j := 0) (r := 43) (by decide +kernel) (e0k hE (k := 42) (c := 3) (by decide +kernel)) (by decide +kernel) (by decide +kernel) (e0r hE (k := 42) (j := 0) (r := 43) (by decide +kernel))) ?_
    refine gm_sz (fw_al (pc := 9) (k := 43) (len := 12) (by decide +kernel) (e0a hE (k := 43) (q := (3, 12)) (by decide +kernel)).1 (e0a hE (k := 43) (q := (3, 12)) (by decide +kernel)).2 (by decide)) ?_
    refine fw_icfd (cc := .ge) (pc := 10) (off := 12) (by decide +kernel) (by decide) ⟨by decide, by decide⟩ ⟨by decide, by decide⟩ (by decide) ?_
    refine gm_sz (gm_p_load (pc := 13) (i := .aload_n 0) (sr := 2) (j := 0) (by decide +kernel) rfl rfl rfl) ?_
    refine gm_sz (fw_gr (pc := 14) (ix := 11) (ci := 3) (j := 0) (r := 43) (by decide +kernel) (e0k hE (k := 42) (c := 3) (by decide +kernel)) (by decide +kernel) (by decide +kernel) (e0r hE (k := 42) (j := 0) (r := 43) (by decide +kernel))) ?_
    refine gm_sz (gm_p_load (pc := 17) (i := .iload_n 1) (sr := 0) (j := 1) (by decide +kernel) rfl rfl rfl) ?_
    refine gm_sz (fw_aa (pc := 18) (k := 43) (len := 12) (e0 := 3) (r := 83) (by decide +kernel) (e0a hE (k := 43) (q := (3, 12)) (by decide +kernel)).1 (e0a hE (k := 43) (q := (3, 12)) (by decide +kernel)).2 (by decide) ⟨by decide, by decide⟩ (e0r hE (k := 43) (j := 3) (r := 83) (by decide +kernel))) ?_
    refine gm_sz (gm_p_goto (pc := 19) (off := 4) (by decide +kernel) (by decide)) ?_
    exact gm_r_ref (pc := 23) (by decide +kernel) (Or.inl ⟨"GlacierMail$State", (by decide +kernel)⟩) hq
  · refine gm_sz (gm_p_load (pc := 0) (i := .iload_n 1) (sr := 0) (j := 1) (by decide +kernel) rfl rfl rfl) ?_
    refine fw_iffd (cc := .lt) (pc := 1) (off := 21) (by decide +kernel) (by decide) ⟨by decide, by decide⟩ (by decide) ?_
    refine gm_sz (gm_p_load (pc := 4) (i := .iload_n 1) (sr := 0) (j := 1) (by decide +kernel) rfl rfl rfl) ?_
    refine gm_sz (gm_p_load (pc := 5) (i := .aload_n 0) (sr := 2) (j := 0) (by decide +kernel) rfl rfl rfl) ?_
    refine gm_sz (fw_gr (pc := 6) (ix := 11) (ci := 3) (j := 0) (r := 43) (by decide +kernel) (e0k hE (k := 42) (c := 3) (by decide +kernel)) (by decide +kernel) (by decide +kernel) (e0r hE (k := 42) (j := 0) (r := 43) (by decide +kernel))) ?_
    refine gm_sz (fw_al (pc := 9) (k := 43) (len := 12) (by decide +kernel) (e0a hE (k := 43) (q := (3, 12)) (by decide +kernel)).1 (e0a hE (k := 43) (q := (3, 12)) (by decide +kernel)).2 (by decide)) ?_
    refine fw_icfd (cc := .ge) (pc := 10) (off := 12) (by decide +kernel) (by decide) ⟨by decide, by decide⟩ ⟨by decide, by decide⟩ (by decide) ?_
    refine gm_sz (gm_p_load (pc := 13) (i := .aload_n 0) (sr := 2) (j := 0) (by decide +kernel) rfl rfl rfl) ?_
    refine gm_sz (fw_gr (pc := 14) (ix := 11) (ci := 3) (j := 0) (r := 43) (by decide +kernel) (e0k hE (k := 42) (c := 3) (by decide +kernel)) (by decide +kernel) (by decide +kernel) (e0r hE (k := 42) (j := 0) (r := 43) (by decide +kernel))) ?_
    refine gm_sz (gm_p_load (pc := 17) (i := .iload_n 1) (sr := 0) (j := 1) (by decide +kernel) rfl rfl rfl) ?_
    refine gm_sz (fw_aa (pc := 18) (k := 43) (len := 12) (e0 := 4) (r := 96) (by decide +kernel) (e0a hE (k := 43) (q := (3, 12)) (by decide +kernel)).1 (e0a hE (k := 43) (q := (3, 12)) (by decide +kernel)).2 (by decide) ⟨by decide, by decide⟩ (e0r hE (k := 43) (j := 4) (r := 96) (by decide +kernel))) ?_
    refine gm_sz (gm_p_goto (pc := 19) (off := 4) (by decide +kernel) (by decide)) ?_
    exact gm_r_ref (pc := 23) (by decide +kernel) (Or.inl ⟨"GlacierMail$State", (by decide +kernel)⟩) hq
  · refine gm_sz (gm_p_load (pc := 0) (i := .iload_n 1) (sr := 0) (j := 1) (by decide +kernel) rfl rfl rfl) ?_
    refine fw_iffd (cc := .lt) (pc := 1) (off := 21) (by decide +kernel) (by decide) ⟨by decide, by decide⟩ (by decide) ?_
    refine gm_sz (gm_p_load (pc := 4) (i := .iload_n 1) (sr := 0) (j := 1) (by decide +kernel) rfl rfl rfl) ?_
    refine gm_sz (gm_p_load (pc := 5) (i := .aload_n 0) (sr := 2) (j := 0) (by decide +kernel) rfl rfl rfl) ?_
    refine gm_sz (fw_gr (pc := 6) (ix := 11) (ci := 3) (j := 0) (r := 43) (by decide +kernel) (e0k hE (k := 42) (c := 3) (by decide +kernel)) (by decide +kernel) (by decide +kernel) (e0r hE (k := 42) (j := 0) (r := 43) (by decide +kernel))) ?_
    refine gm_sz (fw_al (pc := 9) (k := 43) (len := 12) (by decide +kernel) (e0a hE (k := 43) (q := (3, 12)) (by decide +kernel)).1 (e0a hE (k := 43) (q := (3, 12)) (by decide +kernel)).2 (by decide)) ?_
    refine fw_icfd (cc := .ge) (pc := 10) (off := 12) (by decide +kernel) (by decide) ⟨by decide, by decide⟩ ⟨by decide, by decide⟩ (by decide) ?_
    refine gm_sz (gm_p_load (pc := 13) (i := .aload_n 0) (sr := 2) (j := 0) (by decide +kernel) rfl rfl rfl) ?_
    refine gm_sz (fw_gr (pc := 14) (ix := 11) (ci := 3) (j := 0) (r := 43) (by decide +kernel) (e0k hE (k := 42) (c := 3) (by decide +kernel)) (by decide +kernel) (by decide +kernel) (e0r hE (k := 42) (j := 0) (r := 43) (by decide +kernel))) ?_
    refine gm_sz (gm_p_load (pc := 17) (i := .iload_n 1) (sr := 0) (j := 1) (by decide +kernel) rfl rfl rfl) ?_
    refine gm_sz (fw_aa (pc := 18) (k := 43) (len := 12) (e0 := 5) (r := 109) (by decide +kernel) (e0a hE (k := 43) (q := (3, 12)) (by decide +kernel)).1 (e0a hE (k := 43) (q := (3, 12)) (by decide +kernel)).2 (by decide) ⟨by decide, by decide⟩ (e0r hE (k := 43) (j := 5) (r := 109) (by decide +kernel))) ?_
    refine gm_sz (gm_p_goto (pc := 19) (off := 4) (by decide +kernel) (by decide)) ?_
    exact gm_r_ref (pc := 23) (by decide +kernel) (Or.inl ⟨"GlacierMail$State", (by decide +kernel)⟩) hq
  · refine gm_sz (gm_p_load (pc := 0) (i := .iload_n 1) (sr := 0) (j := 1) (by decide +kernel) rfl rfl rfl) ?_
    refine fw_iffd (cc := .lt) (pc := 1) (off := 21) (by decide +kernel) (by decide) ⟨by decide, by decide⟩ (by decide) ?_
    refine gm_sz (gm_p_load (pc := 4) (i := .iload_n 1) (sr := 0) (j := 1) (by decide +kernel) rfl rfl rfl) ?_
    refine gm_sz (gm_p_load (pc := 5) (i := .aload_n 0) (sr := 2) (j := 0) (by decide +kernel) rfl rfl rfl) ?_
    refine gm_sz (fw_gr (pc := 6) (ix := 11) (ci := 3) (j := 0) (r := 43) (by decide +kernel) (e0k hE (k := 42) (c := 3) (by decide +kernel)) (by decide +kernel) (by decide +kernel) (e0r hE (k := 42) (j := 0) (r := 43) (by decide +kernel))) ?_
    refine gm_sz (fw_al (pc := 9) (k := 43) (len := 12) (by decide +kernel) (e0a hE (k := 43) (q := (3, 12)) (by decide +kernel)).1 (e0a hE (k := 43) (q := (3, 12)) (by decide +kernel)).2 (by decide)) ?_
    refine fw_icfd (cc := .ge) (pc := 10) (off := 12) (by decide +kernel) (by decide) ⟨by decide, by decide⟩ ⟨by decide, by decide⟩ (by decide) ?_
    refine gm_sz (gm_p_load (pc := 13) (i := .aload_n 0) (sr := 2) (j := 0) (by decide +kernel) rfl rfl rfl) ?_
    refine gm_sz (fw_gr (pc := 14) (ix := 11) (ci := 3) (j := 0) (r := 43) (by decide +kernel) (e0k hE (k := 42) (c := 3) (by decide +kernel)) (by decide +kernel) (by decide +kernel) (e0r hE (k := 42) (j := 0) (r := 43) (by decide +kernel))) ?_
    refine gm_sz (gm_p_load (pc := 17) (i := .iload_n 1) (sr := 0) (j := 1) (by decide +kernel) rfl rfl rfl) ?_
    refine gm_sz (fw_aa (pc := 18) (k := 43) (len := 12) (e0 := 6) (r := 122) (by decide +kernel) (e0a hE (k := 43) (q := (3, 12)) (by decide +kernel)).1 (e0a hE (k := 43) (q := (3, 12)) (by decide +kernel)).2 (by decide) ⟨by decide, by decide⟩ (e0r hE (k := 43) (j := 6) (r := 122) (by decide +kernel))) ?_
    refine gm_sz (gm_p_goto (pc := 19) (off := 4) (by decide +kernel) (by decide)) ?_
    exact gm_r_ref (pc := 23) (by decide +kernel) (Or.inl ⟨"GlacierMail$State", (by decide +kernel)⟩) hq
  · refine gm_sz (gm_p_load (pc := 0) (i := .iload_n 1) (sr := 0) (j := 1) (by decide +kernel) rfl rfl rfl) ?_
    refine fw_iffd (cc := .lt) (pc := 1) (off := 21) (by decide +kernel) (by decide) ⟨by decide, by decide⟩ (by decide) ?_
    refine gm_sz (gm_p_load (pc := 4) (i := .iload_n 1) (sr := 0) (j := 1) (by decide +kernel) rfl rfl rfl) ?_
    refine gm_sz (gm_p_load (pc := 5) (i := .aload_n 0) (sr := 2) (j := 0) (by decide +kernel) rfl rfl rfl) ?_
    refine gm_sz (fw_gr (pc := 6) (ix := 11) (ci := 3) (j := 0) (r := 43) (by decide +kernel) (e0k hE (k := 42) (c := 3) (by decide +kernel)) (by decide +kernel) (by decide +kernel) (e0r hE (k := 42) (j := 0) (r := 43) (by decide +kernel))) ?_
    refine gm_sz (fw_al (pc := 9) (k := 43) (len := 12) (by decide +kernel) (e0a hE (k := 43) (q := (3, 12)) (by decide +kernel)).1 (e0a hE (k := 43) (q := (3, 12)) (by decide +kernel)).2 (by decide)) ?_
    refine fw_icfd (cc := .ge) (pc := 10) (off := 12) (by decide +kernel) (by decide) ⟨by decide, by decide⟩ ⟨by decide, by decide⟩ (by decide) ?_
    refine gm_sz (gm_p_load (pc := 13) (i := .aload_n 0) (sr := 2) (j := 0) (by decide +kernel) rfl rfl rfl) ?_
    refine gm_sz (fw_gr (pc := 14) (ix := 11) (ci := 3) (j := 0) (r := 43) (by decide +kernel) (e0k hE (k := 42) (c := 3) (by decide +kernel)) (by decide +kernel) (by decide +kernel) (e0r hE (k := 42) (j := 0) (r := 43) (by decide +kernel))) ?_
    refine gm_sz (gm_p_load (pc := 17) (i := .iload_n 1) (sr := 0) (j := 1) (by decide +kernel) rfl rfl rfl) ?_
    refine gm_sz (fw_aa (pc := 18) (k := 43) (len := 12) (e0 := 7) (r := 135) (by decide +kernel) (e0a hE (k := 43) (q := (3, 12)) (by decide +kernel)).1 (e0a hE (k := 43) (q := (3, 12)) (by decide +kernel)).2 (by decide) ⟨by decide, by decide⟩ (e0r hE (k := 43) (j := 7) (r := 135) (by decide +kernel))) ?_
    refine gm_sz (gm_p_goto (pc := 19) (off := 4) (by decide +kernel) (by decide)) ?_
    exact gm_r_ref (pc := 23) (by decide +kernel) (Or.inl ⟨"GlacierMail$State", (by decide +kernel)⟩) hq
  · refine gm_sz (gm_p_load (pc := 0) (i := .iload_n 1) (sr := 0) (j := 1) (by decide +kernel) rfl rfl rfl) ?_
    refine fw_iffd (cc := .lt) (pc := 1) (off := 21) (by decide +kernel) (by decide) ⟨by decide, by decide⟩ (by decide) ?_
    refine gm_sz (gm_p_load (pc := 4) (i := .iload_n 1) (sr := 0) (j := 1) (by decide +kernel) rfl rfl rfl) ?_
    refine gm_sz (gm_p_load (pc := 5) (i := .aload_n 0) (sr := 2) (j := 0) (by decide +kernel) rfl rfl rfl) ?_
    refine gm_sz (fw_gr (pc := 6) (ix := 11) (ci := 3) (j := 0) (r := 43) (by decide +kernel) (e0k hE (k := 42) (c := 3) (by decide +kernel)) (by decide +kernel) (by decide +kernel) (e0r hE (k := 42) (j := 0) (r := 43) (by decide +kernel))) ?_
    refine gm_sz (fw_al (pc := 9) (k := 43) (len := 12) (by decide +kernel) (e0a hE (k := 43) (q := (3, 12)) (by decide +kernel)).1 (e0a hE (k := 43) (q := (3, 12)) (by decide +kernel)).2 (by decide)) ?_
    refine fw_icfd (cc := .ge) (pc := 10) (off := 12) (by decide +kernel) (by decide) ⟨by decide, by decide⟩ ⟨by decide, by decide⟩ (by decide) ?_
    refine gm_sz (gm_p_load (pc := 13) (i := .aload_n 0) (sr := 2) (j := 0) (by decide +kernel) rfl rfl rfl) ?_
    refine gm_sz (fw_gr (pc := 14) (ix := 11) (ci := 3) (j := 0) (r := 43) (by decide +kernel) (e0k hE (k := 42) (c := 3) (by decide +kernel)) (by decide +kernel) (by decide +kernel) (e0r hE (k := 42) (j := 0) (r := 43) (by decide +kernel))) ?_
    refine gm_sz (gm_p_load (pc := 17) (i := .iload_n 1) (sr := 0) (j := 1) (by decide +kernel) rfl rfl rfl) ?_
    refine gm_sz (fw_aa (pc := 18) (k := 43) (len := 12) (e0 := 8) (r := 148) (by decide +kernel) (e0a hE (k := 43) (q := (3, 12)) (by decide +kernel)).1 (e0a hE (k := 43) (q := (3, 12)) (by decide +kernel)).2 (by decide) ⟨by decide, by decide⟩ (e0r hE (k := 43) (j := 8) (r := 148) (by decide +kernel))) ?_
    refine gm_sz (gm_p_goto (pc := 19) (off := 4) (by decide +kernel) (by decide)) ?_
    exact gm_r_ref (pc := 23) (by decide +kernel) (Or.inl ⟨"GlacierMail$State", (by decide +kernel)⟩) hq
  · refine gm_sz (gm_p_load (pc := 0) (i := .iload_n 1) (sr := 0) (j := 1) (by decide +kernel) rfl rfl rfl) ?_
    refine fw_iffd (cc := .lt) (pc := 1) (off := 21) (by decide +kernel) (by decide) ⟨by decide, by decide⟩ (by decide) ?_
    refine gm_sz (gm_p_load (pc := 4) (i := .iload_n 1) (sr := 0) (j := 1) (by decide +kernel) rfl rfl rfl) ?_
    refine gm_sz (gm_p_load (pc := 5) (i := .aload_n 0) (sr := 2) (j := 0) (by decide +kernel) rfl rfl rfl) ?_
    refine gm_sz (fw_gr (pc := 6) (ix := 11) (ci := 3) (j := 0) (r := 43) (by decide +kernel) (e0k hE (k := 42) (c := 3) (by decide +kernel)) (by decide +kernel) (by decide +kernel) (e0r hE (k := 42) (j := 0) (r := 43) (by decide +kernel))) ?_
    refine gm_sz (fw_al (pc := 9) (k := 43) (len := 12) (by decide +kernel) (e0a hE (k := 43) (q := (3, 12)) (by decide +kernel)).1 (e0a hE (k := 43) (q := (3, 12)) (by decide +kernel)).2 (by decide)) ?_
    refine fw_icfd (cc := .ge) (pc := 10) (off := 12) (by decide +kernel) (by decide) ⟨by decide, by decide⟩ ⟨by decide, by decide⟩ (by decide) ?_
    refine gm_sz (gm_p_load (pc := 13) (i := .aload_n 0) (sr := 2) (j := 0) (by decide +kernel) rfl rfl rfl) ?_
    refine gm_sz (fw_gr (pc := 14) (ix := 11) (ci := 3) (j := 0) (r := 43) (by decide +kernel) (e0k hE (k := 42) (c := 3) (by decide +kernel)) (by decide +kernel) (by decide +kernel) (e0r hE (k := 42) (j := 0) (r := 43) (by decide +kernel))) ?_
    refine gm_sz (gm_p_load (pc := 17) (i := .iload_n 1) (sr := 0) (j := 1) (by decide +kernel) rfl rfl rfl) ?_
    refine gm_sz (fw_aa (pc := 18) (k := 43) (len := 12) (e0 := 9) (r := 161) (by decide +kernel) (e0a hE (k := 43) (q := (3, 12)) (by decide +kernel)).1 (e0a hE (k := 43) (q := (3, 12)) (by decide +kernel)).2 (by decide) ⟨by decide, by decide⟩ (e0r hE (k := 43) (j := 9) (r := 161) (by decide +kernel))) ?_
    refine gm_sz (gm_p_goto (pc := 19) (off := 4) (by decide +kernel) (by decide)) ?_
    exact gm_r_ref (pc := 23) (by decide +kernel) (Or.inl ⟨"GlacierMail$State", (by decide +kernel)⟩) hq
  · refine gm_sz (gm_p_load (pc := 0) (i := .iload_n 1) (sr := 0) (j := 1) (by decide +kernel) rfl rfl rfl) ?_
    refine fw_iffd (cc := .lt) (pc := 1) (off := 21) (by decide +kernel) (by decide) ⟨by decide, by decide⟩ (by decide) ?_
    refine gm_sz (gm_p_load (pc := 4) (i := .iload_n 1) (sr := 0) (j := 1) (by decide +kernel) rfl rfl rfl) ?_
    refine gm_sz (gm_p_load (pc := 5) (i := .aload_n 0) (sr := 2) (j := 0) (by decide +kernel) rfl rfl rfl) ?_
    refine gm_sz (fw_gr (pc := 6) (ix := 11) (ci := 3) (j := 0) (r := 43) (by decide +kernel) (e0k hE (k := 42) (c := 3) (by decide +kernel)) (by decide +kernel) (by decide +kernel) (e0r hE (k := 42) (j := 0) (r := 43) (by decide +kernel))) ?_
    refine gm_sz (fw_al (pc := 9) (k := 43) (len := 12) (by decide +kernel) (e0a hE (k := 43) (q := (3, 12)) (by decide +kernel)).1 (e0a hE (k := 43) (q := (3, 12)) (by decide +kernel)).2 (by decide)) ?_
    refine fw_icfd (cc := .ge) (pc := 10) (off := 12) (by decide +kernel) (by decide) ⟨by decide, by decide⟩ ⟨by decide, by decide⟩ (by decide) ?_
    refine gm_sz (gm_p_load (pc := 13) (i := .aload_n 0) (sr := 2) (j := 0) (by decide +kernel) rfl rfl rfl) ?_
    refine gm_sz (fw_gr (pc := 14) (ix := 11) (ci := 3) (j := 0) (r := 43) (by decide +kernel) (e0k hE (k := 42) (c := 3) (by decide +kernel)) (by decide +kernel) (by decide +kernel) (e0r hE (k := 42) (j := 0) (r := 43) (by decide +kernel))) ?_
    refine gm_sz (gm_p_load (pc := 17) (i := .iload_n 1) (sr := 0) (j := 1) (by decide +kernel) rfl rfl rfl) ?_
    refine gm_sz (fw_aa (pc := 18) (k := 43) (len := 12) (e0 := 10) (r := 174) (by decide +kernel) (e0a hE (k := 43) (q := (3, 12)) (by decide +kernel)).1 (e0a hE (k := 43) (q := (3, 12)) (by decide +kernel)).2 (by decide) ⟨by decide, by decide⟩ (e0r hE (k := 43) (j := 10) (r := 174) (by decide +kernel))) ?_
    refine gm_sz (gm_p_goto (pc := 19) (off := 4) (by decide +kernel) (by decide)) ?_
    exact gm_r_ref (pc := 23) (by decide +kernel) (Or.inl ⟨"GlacierMail$State", (by decide +kernel)⟩) hq
  · refine gm_sz (gm_p_load (pc := 0) (i := .iload_n 1) (sr := 0) (j := 1) (by decide +kernel) rfl rfl rfl) ?_
    refine fw_iffd (cc := .lt) (pc := 1) (off := 21) (by decide +kernel) (by decide) ⟨by decide, by decide⟩ (by decide) ?_
    refine gm_sz (gm_p_load (pc := 4) (i := .iload_n 1) (sr := 0) (j := 1) (by decide +kernel) rfl rfl rfl) ?_
    refine gm_sz (gm_p_load (pc := 5) (i := .aload_n 0) (sr := 2) (j := 0) (by decide +kernel) rfl rfl rfl) ?_
    refine gm_sz (fw_gr (pc := 6) (ix := 11) (ci := 3) (j := 0) (r := 43) (by decide +kernel) (e0k hE (k := 42) (c := 3) (by decide +kernel)) (by decide +kernel) (by decide +kernel) (e0r hE (k := 42) (j := 0) (r := 43) (by decide +kernel))) ?_
    refine gm_sz (fw_al (pc := 9) (k := 43) (len := 12) (by decide +kernel) (e0a hE (k := 43) (q := (3, 12)) (by decide +kernel)).1 (e0a hE (k := 43) (q := (3, 12)) (by decide +kernel)).2 (by decide)) ?_
    refine fw_icfd (cc := .ge) (pc := 10) (off := 12) (by decide +kernel) (by decide) ⟨by decide, by decide⟩ ⟨by decide, by decide⟩ (by decide) ?_
    refine gm_sz (gm_p_load (pc := 13) (i := .aload_n 0) (sr := 2) (j := 0) (by decide +kernel) rfl rfl rfl) ?_
    refine gm_sz (fw_gr (pc := 14) (ix := 11) (ci := 3) (j := 0) (r := 43) (by decide +kernel) (e0k hE (k := 42) (c := 3) (by decide +kernel)) (by decide +kernel) (by decide +kernel) (e0r hE (k := 42) (j := 0) (r := 43) (by decide +kernel))) ?_
    refine gm_sz (gm_p_load (pc := 17) (i := .iload_n 1) (sr := 0) (j := 1) (by decide +kernel) rfl rfl rfl) ?_
    refine gm_sz (fw_aa (pc := 18) (k := 43) (len := 12) (e0 := 11) (r := 187) (by decide +kernel) (e0a hE (k := 43) (q := (3, 12)) (by decide +kernel)).1 (e0a hE (k := 43) (q := (3, 12)) (by decide +kernel)).2 (by decide) ⟨by decide, by decide⟩ (e0r hE (k := 43) (j := 11) (r := 187) (by decide +kernel))) ?_
    refine gm_sz (gm_p_goto (pc := 19) (off := 4) (by decide +kernel) (by decide)) ?_
    exact gm_r_ref (pc := 23) (by decide +kernel) (Or.inl ⟨"GlacierMail$State", (by decide +kernel)⟩) hq
end HI0
end
/-! 7a10.c11ac -/
section
/-! THE CLASS: remember, take back; the image (laid by wip/core/c11.py). -/
/-- a State copied: nothing else, but for the law's reference -/
def CPY (M M2 : gm_M) (b s : Nat) : Prop := (∀ (x : Nat) (j : Int), (x < b ∨ b + 12 < x) → M2 x j = M x j) ∧ (∀ (x : Nat) (j : Int), 0 ≤ j → j < 3 → ((x : Int) = b + 1 ∨ (x : Int) = b + 3 ∨ (x : Int) = b + 5 ∨ (x : Int) = b + 7 ∨ (x : Int) = b + 9 ∨ (x : Int) = b + 11) → M2 x j = M x j) ∧ cs M2 b = cs M s
section AC11
variable {X : Int → Int} {LX d bc bs n : Nat} {K : gm_K} {R : gm_R} {M : gm_M} {Q : gm_Q} {nx sz : Int} {b : Nat} {N : Int → Int}
theorem sz_cs (hN : NR N) (h : cs M b = N) : SZ M b := by
  have e2 : M (b + 1) 3 = N 2 := congrFun h 2
  have e5 : M (b + 3) 3 = N 5 := congrFun h 5
  have e3 : M (b + 5) 3 = N 3 := congrFun h 3
  have e4 : M (b + 7) 3 = N 4 := congrFun h 4
  have e6 : M (b + 9) 3 = N 6 := congrFun h 6
  have e14 : M (b + 11) 3 = N 14 := congrFun h 14
  unfold SZ
  rw [e2, e5, e3, e4, e6, e14]
  exact ⟨hN.2.1.1, hN.2.1.2.1, hN.2.1.2.2.1, hN.2.1.2.2.2.1, hN.2.1.2.2.2.2.1, hN.2.1.2.2.2.2.2.1⟩
theorem hi_rem (hd : 5 ≤ d) (hE : E0 n K R) (hC : CST M) (hnx : 0 ≤ nx ∧ nx < 12) (h1 : M 42 1 = nx) (h2 : M 42 2 = sz) (hsz : 0 ≤ sz ∧ sz ≤ 12) (hz : SZ M 3) (hq : ∀ M9, CPY M M9 (44 + 13 * nx.toNat) 3 → Q (.inl none) n K (gm_uR R (44 + 13 * nx.toNat) 8 (R 3 8)) (gm_uM (gm_uM M9 42 1 ((nx + 1) % 12)) 42 2 (min (sz + 1) 12))) : gm_Wp X LX d bc bs 154 0 (gm_ent 154 [gm_vr 42, gm_vr 3]) [] n K R M Q := by
  refine gm_sz (gm_p_load (pc := 0) (i := .aload_n 0) (sr := 2) (j := 0) (by decide +kernel) rfl rfl rfl) ?_
  refine gm_sz (gm_p_load (pc := 1) (i := .aload_n 0) (sr := 2) (j := 0) (by decide +kernel) rfl rfl rfl) ?_
  refine gm_sz (fw_gi (pc := 2) (ix := 17) (ci := 3) (j := 1) (x := nx) (by decide +kernel) (e0k hE (k := 42) (c := 3) (by decide +kernel)) (by decide +kernel) (by decide +kernel) h1) ?_
  refine gm_c_virt (k := 42) (ci := 3) (mj := 56) (ix := 25) (pc := 5) (as := [gm_vi nx]) (st := []) (d' := d - 1) (bc' := 0) (bs' := 0) (by decide +kernel) (by decide +kernel) (by decide +kernel) (by decide +kernel) (e0k hE (k := 42) (c := 3) (by decide +kernel)).1 (e0k hE (k := 42) (c := 3) (by decide +kernel)).2 (by decide) (by decide +kernel) (show 1 = gm_na 56 by decide +kernel) (fw_c1 fw_si) (show 2 ≤ gm_ml 56 by decide +kernel) (Nat.le_of_ble_eq_true rfl) (by omega) (Nat.zero_le _) (Nat.zero_le _) ?_
  refine hi_at hE hnx ?_
  show gm_Wp X LX d _ _ 154 8 _ [gm_vr (44 + 13 * nx.toNat)] n K _ _ Q
  refine gm_sz (gm_p_stor (pc := 8) (i := .astore_n 2) (sr := 2) (j := 2) (by decide +kernel) rfl (show 3 ≤ _ from Nat.le_of_ble_eq_true rfl) rfl) ?_
  refine gm_sz (gm_p_load (pc := 9) (i := .aload_n 2) (sr := 2) (j := 2) (by decide +kernel) rfl rfl rfl) ?_
  refine gm_b_nul (pc := 10) (off := 8) (k0 := 44 + 13 * nx.toNat) (by omega) (by decide +kernel) (by decide) (fun hz => absurd hz (by omega)) (fun _ => ?_)
  refine gm_sz (gm_p_load (pc := 13) (i := .aload_n 2) (sr := 2) (j := 2) (by decide +kernel) rfl rfl rfl) ?_
  refine gm_sz (gm_p_load (pc := 14) (i := .aload_n 1) (sr := 2) (j := 1) (by decide +kernel) rfl rfl rfl) ?_
  refine gm_c_virt (k := 44 + 13 * nx.toNat) (ci := 1) (mj := 57) (ix := 29) (pc := 15) (as := [gm_vr 3]) (st := []) (d' := d - 1) (bc' := 0) (bs' := 0) (by decide +kernel) (by decide +kernel) (by decide +kernel) (by decide +kernel) (ks_p hE hnx).1.1 (ks_p hE hnx).1.2 (by decide) (by decide +kernel) (show 1 = gm_na 57 by decide +kernel) (fw_c1 fw_sr) (show 2 ≤ gm_ml 57 by decide +kernel) (Nat.le_of_ble_eq_true rfl) (by omega) (Nat.zero_le _) (Nat.zero_le _) ?_
  refine st_copy (b := 44 + 13 * nx.toNat) (s := 3) (by omega) (ks_p hE hnx) (ks_3 hE) (by omega) (mx_p hC hnx) hz (fun M9 hx9 hy9 hc9 => ?_)
  show gm_Wp X LX d _ _ 154 18 _ [] n K _ _ Q
  refine gm_sz (gm_p_load (pc := 18) (i := .aload_n 0) (sr := 2) (j := 0) (by decide +kernel) rfl rfl rfl) ?_
  refine gm_sz (gm_p_load (pc := 19) (i := .aload_n 0) (sr := 2) (j := 0) (by decide +kernel) rfl rfl rfl) ?_
  refine gm_sz (fw_gi (pc := 20) (ix := 17) (ci := 3) (j := 1) (x := nx) (by decide +kernel) (e0k hE (k := 42) (c := 3) (by decide +kernel)) (by decide +kernel) (by decide +kernel) ((hx9 _ _ (by omega)).trans h1)) ?_
  refine gm_sz (gm_p_const (pc := 23) (i := .iconst 1) (v := gm_vi 1) (by decide +kernel) (by decide +kernel)) ?_
  refine gm_sz (gm_p_bin (pc := 24) (i := .iadd) (f := fun x y => x + y) (by decide +kernel) rfl) ?_
  refine gm_sz (gm_p_const (pc := 25) (i := .bipush 12) (v := gm_vi 12) (by decide +kernel) (by decide +kernel)) ?_
  refine gm_sz (gm_p_rem (pc := 27) (by decide +kernel) (by decide)) ?_
  rw [fw_rem (a := nx + 1) (b := 12) (by omega) (by omega) (by decide)]
  refine gm_sz (fw_pi (pc := 28) (ix := 17) (ci := 3) (j := 1) (M' := gm_uM M9 42 1 ((nx + 1) % 12)) (by decide +kernel) (e0k hE (k := 42) (c := 3) (by decide +kernel)) (by decide +kernel) (by decide +kernel) (by decide +kernel) rfl) ?_
  refine gm_sz (gm_p_load (pc := 31) (i := .aload_n 0) (sr := 2) (j := 0) (by decide +kernel) rfl rfl rfl) ?_
  refine gm_sz (gm_p_load (pc := 32) (i := .aload_n 0) (sr := 2) (j := 0) (by decide +kernel) rfl rfl rfl) ?_
  refine gm_sz (fw_gi (pc := 33) (ix := 21) (ci := 3) (j := 2) (x := sz) (by decide +kernel) (e0k hE (k := 42) (c := 3) (by decide +kernel)) (by decide +kernel) (by decide +kernel) ((uM_ne (by omega)).trans ((hx9 _ _ (by omega)).trans h2))) ?_
  refine gm_sz (gm_p_const (pc := 36) (i := .iconst 1) (v := gm_vi 1) (by decide +kernel) (by decide +kernel)) ?_
  refine gm_sz (gm_p_bin (pc := 37) (i := .iadd) (f := fun x y => x + y) (by decide +kernel) rfl) ?_
  refine gm_sz (gm_p_const (pc := 38) (i := .bipush 12) (v := gm_vi 12) (by decide +kernel) (by decide +kernel)) ?_
  refine gm_sz (gm_p_min (pc := 40) (ix := 33) (x := sz + 1) (y := 12) (by decide +kernel) (by decide +kernel) (gm_w_id (by omega) (by omega)) (gm_w_id (by omega) (by omega)) (Nat.le_of_ble_eq_true rfl) (by omega)) ?_
  refine gm_sz (fw_pi (pc := 43) (ix := 21) (ci := 3) (j := 2) (M' := gm_uM (gm_uM M9 42 1 ((nx + 1) % 12)) 42 2 (min (sz + 1) 12)) (by decide +kernel) (e0k hE (k := 42) (c := 3) (by decide +kernel)) (by decide +kernel) (by decide +kernel) (by decide +kernel) rfl) ?_
  exact gm_r_void (pc := 46) (by decide +kernel) (by decide +kernel) (hq M9 ⟨hx9, hy9, hc9⟩)
theorem hi_tb0 (hE : E0 n K R) (h2 : M 42 2 = 0) (hq : Q (.inl (some (gm_vi 0))) n K R M) : gm_Wp X LX d bc bs 55 0 (gm_ent 55 [gm_vr 42, gm_vr 3]) [] n K R M Q := by
  refine gm_sz (gm_p_load (pc := 0) (i := .aload_n 0) (sr := 2) (j := 0) (by decide +kernel) rfl rfl rfl) ?_
  refine gm_sz (fw_gi (pc := 1) (ix := 21) (ci := 3) (j := 2) (x := 0) (by decide +kernel) (e0k hE (k := 42) (c := 3) (by decide +kernel)) (by decide +kernel) (by decide +kernel) h2) ?_
  refine fw_iffd (cc := .ne) (pc := 4) (off := 5) (by decide +kernel) (by decide) ⟨by decide, by decide⟩ (by decide) ?_
  refine gm_sz (gm_p_const (pc := 7) (i := .iconst 0) (v := gm_vi 0) (by decide +kernel) (by decide +kernel)) ?_
  exact gm_r_int (pc := 8) (by decide +kernel) (Or.inr ⟨(by decide +kernel), Or.inl rfl⟩) hq
theorem hi_tb (hd : 5 ≤ d) (hE : E0 n K R) (hC : CST M) (hnx : 0 ≤ nx ∧ nx < 12) (h1 : M 42 1 = nx) (h2 : M 42 2 = sz) (hsz : 0 ≤ sz ∧ sz ≤ 12) (h0 : ¬ sz = 0) (hmx : MX M 3) (hz : SZ M (44 + 13 * (((nx + 12) - 1) % 12).toNat)) (hq : ∀ M9, CPY (gm_uM (gm_uM M 42 1 (((nx + 12) - 1) % 12)) 42 2 (sz - 1)) M9 3 (44 + 13 * (((nx + 12) - 1) % 12).toNat) → Q (.inl (some (gm_vi 1))) n K (gm_uR R 3 8 (R (44 + 13 * (((nx + 12) - 1) % 12).toNat) 8)) M9) : gm_Wp X LX d bc bs 55 0 (gm_ent 55 [gm_vr 42, gm_vr 3]) [] n K R M Q := by
  have hp9 : 0 ≤ ((nx + 12) - 1) % 12 ∧ ((nx + 12) - 1) % 12 < 12 := ⟨by omega, by omega⟩
  refine gm_sz (gm_p_load (pc := 0) (i := .aload_n 0) (sr := 2) (j := 0) (by decide +kernel) rfl rfl rfl) ?_
  refine gm_sz (fw_gi (pc := 1) (ix := 21) (ci := 3) (j := 2) (x := sz) (by decide +kernel) (e0k hE (k := 42) (c := 3) (by decide +kernel)) (by decide +kernel) (by decide +kernel) h2) ?_
  refine fw_ift (cc := .ne) (pc := 4) (off := 5) (by decide +kernel) (by decide) ⟨by omega, by omega⟩ (show ¬ sz = 0 by omega) ?_
  refine gm_sz (gm_p_load (pc := 9) (i := .aload_n 0) (sr := 2) (j := 0) (by decide +kernel) rfl rfl rfl) ?_
  refine gm_sz (gm_p_load (pc := 10) (i := .aload_n 0) (sr := 2) (j := 0) (by decide +kernel) rfl rfl rfl) ?_
  refine gm_sz (fw_gi (pc := 11) (ix := 17) (ci := 3) (j := 1) (x := nx) (by decide +kernel) (e0k hE (k := 42) (c := 3) (by decide +kernel)) (by decide +kernel) (by decide +kernel) h1) ?_
  refine gm_sz (gm_p_const (pc := 14) (i := .bipush 12) (v := gm_vi 12) (by decide +kernel) (by decide +kernel)) ?_
  refine gm_sz (gm_p_bin (pc := 16) (i := .iadd) (f := fun x y => x + y) (by decide +kernel) rfl) ?_
  refine gm_sz (gm_p_const (pc := 17) (i := .iconst 1) (v := gm_vi 1) (by decide +kernel) (by decide +kernel)) ?_
  refine gm_sz (gm_p_bin (pc := 18) (i := .isub) (f := fun x y => x - y) (by decide +kernel) rfl) ?_
  refine gm_sz (gm_p_const (pc := 19) (i := .bipush 12) (v := gm_vi 12) (by decide +kernel) (by decide +kernel)) ?_
  refine gm_sz (gm_p_rem (pc := 21) (by decide +kernel) (by decide)) ?_
  rw [fw_rem (a := (nx + 12) - 1) (b := 12) (by omega) (by omega) (by decide)]
  refine gm_sz (fw_pi (pc := 22) (ix := 17) (ci := 3) (j := 1) (M' := gm_uM M 42 1 (((nx + 12) - 1) % 12)) (by decide +kernel) (e0k hE (k := 42) (c := 3) (by decide +kernel)) (by decide +kernel) (by decide +kernel) (by decide +kernel) rfl) ?_
  refine gm_sz (gm_p_load (pc := 25) (i := .aload_n 0) (sr := 2) (j := 0) (by decide +kernel) rfl rfl rfl) ?_
  refine gm_sz (gm_p_dup (pc := 26) (by decide +kernel) fw_sr) ?_
  refine gm_sz (fw_gi (pc := 27) (ix := 21) (ci := 3) (j := 2) (x := sz) (by decide +kernel) (e0k hE (k := 42) (c := 3) (by decide +kernel)) (by decide +kernel) (by decide +kernel) ((uM_ne (by omega)).trans h2)) ?_
  refine gm_sz (gm_p_const (pc := 30) (i := .iconst 1) (v := gm_vi 1) (by decide +kernel) (by decide +kernel)) ?_
  refine gm_sz (gm_p_bin (pc := 31) (i := .isub) (f := fun x y => x - y) (by decide +kernel) rfl) ?_
  refine gm_sz (fw_pi (pc := 32) (ix := 21) (ci := 3) (j := 2) (M' := gm_uM (gm_uM M 42 1 (((nx + 12) - 1) % 12)) 42 2 (sz - 1)) (by decide +kernel) (e0k hE (k := 42) (c := 3) (by decide +kernel)) (by decide +kernel) (by decide +kernel) (by decide +kernel) rfl) ?_
  refine gm_sz (gm_p_load (pc := 35) (i := .aload_n 0) (sr := 2) (j := 0) (by decide +kernel) rfl rfl rfl) ?_
  refine gm_sz (gm_p_load (pc := 36) (i := .aload_n 0) (sr := 2) (j := 0) (by decide +kernel) rfl rfl rfl) ?_
  refine gm_sz (fw_gi (pc := 37) (ix := 17) (ci := 3) (j := 1) (x := ((nx + 12) - 1) % 12) (by decide +kernel) (e0k hE (k := 42) (c := 3) (by decide +kernel)) (by decide +kernel) (by decide +kernel) ((uM_ne (by omega)).trans uM_at)) ?_
  refine gm_c_virt (k := 42) (ci := 3) (mj := 56) (ix := 25) (pc := 40) (as := [gm_vi (((nx + 12) - 1) % 12)]) (st := []) (d' := d - 1) (bc' := 0) (bs' := 0) (by decide +kernel) (by decide +kernel) (by decide +kernel) (by decide +kernel) (e0k hE (k := 42) (c := 3) (by decide +kernel)).1 (e0k hE (k := 42) (c := 3) (by decide +kernel)).2 (by decide) (by decide +kernel) (show 1 = gm_na 56 by decide +kernel) (fw_c1 fw_si) (show 2 ≤ gm_ml 56 by decide +kernel) (Nat.le_of_ble_eq_true rfl) (by omega) (Nat.zero_le _) (Nat.zero_le _) ?_
  refine hi_at hE hp9 ?_
  show gm_Wp X LX d _ _ 55 43 _ [gm_vr (44 + 13 * (((nx + 12) - 1) % 12).toNat)] n K _ _ Q
  refine gm_sz (gm_p_stor (pc := 43) (i := .astore_n 2) (sr := 2) (j := 2) (by decide +kernel) rfl (show 3 ≤ _ from Nat.le_of_ble_eq_true rfl) rfl) ?_
  refine gm_sz (gm_p_load (pc := 44) (i := .aload_n 2) (sr := 2) (j := 2) (by decide +kernel) rfl rfl rfl) ?_
  refine gm_b_nul (pc := 45) (off := 8) (k0 := 44 + 13 * (((nx + 12) - 1) % 12).toNat) (by omega) (by decide +kernel) (by decide) (fun hz => absurd hz (by omega)) (fun _ => ?_)
  refine gm_sz (gm_p_load (pc := 48) (i := .aload_n 1) (sr := 2) (j := 1) (by decide +kernel) rfl rfl rfl) ?_
  refine gm_sz (gm_p_load (pc := 49) (i := .aload_n 2) (sr := 2) (j := 2) (by decide +kernel) rfl rfl rfl) ?_
  refine gm_c_virt (k := 3) (ci := 1) (mj := 57) (ix := 29) (pc := 50) (as := [gm_vr (44 + 13 * (((nx + 12) - 1) % 12).toNat)]) (st := []) (d' := d - 1) (bc' := 0) (bs' := 0) (by decide +kernel) (by decide +kernel) (by decide +kernel) (by decide +kernel) (e0k hE (k := 3) (c := 1) (by decide +kernel)).1 (e0k hE (k := 3) (c := 1) (by decide +kernel)).2 (by decide) (by decide +kernel) (show 1 = gm_na 57 by decide +kernel) (fw_c1 fw_sr) (show 2 ≤ gm_ml 57 by decide +kernel) (Nat.le_of_ble_eq_true rfl) (by omega) (Nat.zero_le _) (Nat.zero_le _) ?_
  refine st_copy (b := 3) (s := 44 + 13 * (((nx + 12) - 1) % 12).toNat) (by omega) (ks_3 hE) (ks_p hE hp9) (by omega) (show MX (gm_uM (gm_uM M 42 1 (((nx + 12) - 1) % 12)) 42 2 (sz - 1)) 3 from by unfold MX at hmx ⊢; rw [show (gm_uM (gm_uM M 42 1 (((nx + 12) - 1) % 12)) 42 2 (sz - 1)) (3 + 1) 0 = M (3 + 1) 0 from (uM_ne (by omega)).trans (uM_ne (by omega)), show (gm_uM (gm_uM M 42 1 (((nx + 12) - 1) % 12)) 42 2 (sz - 1)) (3 + 3) 0 = M (3 + 3) 0 from (uM_ne (by omega)).trans (uM_ne (by omega)), show (gm_uM (gm_uM M 42 1 (((nx + 12) - 1) % 12)) 42 2 (sz - 1)) (3 + 5) 0 = M (3 + 5) 0 from (uM_ne (by omega)).trans (uM_ne (by omega)), show (gm_uM (gm_uM M 42 1 (((nx + 12) - 1) % 12)) 42 2 (sz - 1)) (3 + 7) 0 = M (3 + 7) 0 from (uM_ne (by omega)).trans (uM_ne (by omega)), show (gm_uM (gm_uM M 42 1 (((nx + 12) - 1) % 12)) 42 2 (sz - 1)) (3 + 9) 0 = M (3 + 9) 0 from (uM_ne (by omega)).trans (uM_ne (by omega)), show (gm_uM (gm_uM M 42 1 (((nx + 12) - 1) % 12)) 42 2 (sz - 1)) (3 + 11) 0 = M (3 + 11) 0 from (uM_ne (by omega)).trans (uM_ne (by omega))]; exact hmx) (show SZ (gm_uM (gm_uM M 42 1 (((nx + 12) - 1) % 12)) 42 2 (sz - 1)) (44 + 13 * (((nx + 12) - 1) % 12).toNat) from by unfold SZ at hz ⊢; rw [show (gm_uM (gm_uM M 42 1 (((nx + 12) - 1) % 12)) 42 2 (sz - 1)) (44 + 13 * (((nx + 12) - 1) % 12).toNat + 1) 3 = M (44 + 13 * (((nx + 12) - 1) % 12).toNat + 1) 3 from (uM_ne (by omega)).trans (uM_ne (by omega)), show (gm_uM (gm_uM M 42 1 (((nx + 12) - 1) % 12)) 42 2 (sz - 1)) (44 + 13 * (((nx + 12) - 1) % 12).toNat + 3) 3 = M (44 + 13 * (((nx + 12) - 1) % 12).toNat + 3) 3 from (uM_ne (by omega)).trans (uM_ne (by omega)), show (gm_uM (gm_uM M 42 1 (((nx + 12) - 1) % 12)) 42 2 (sz - 1)) (44 + 13 * (((nx + 12) - 1) % 12).toNat + 5) 3 = M (44 + 13 * (((nx + 12) - 1) % 12).toNat + 5) 3 from (uM_ne (by omega)).trans (uM_ne (by omega)), show (gm_uM (gm_uM M 42 1 (((nx + 12) - 1) % 12)) 42 2 (sz - 1)) (44 + 13 * (((nx + 12) - 1) % 12).toNat + 7) 3 = M (44 + 13 * (((nx + 12) - 1) % 12).toNat + 7) 3 from (uM_ne (by omega)).trans (uM_ne (by omega)), show (gm_uM (gm_uM M 42 1 (((nx + 12) - 1) % 12)) 42 2 (sz - 1)) (44 + 13 * (((nx + 12) - 1) % 12).toNat + 9) 3 = M (44 + 13 * (((nx + 12) - 1) % 12).toNat + 9) 3 from (uM_ne (by omega)).trans (uM_ne (by omega)), show (gm_uM (gm_uM M 42 1 (((nx + 12) - 1) % 12)) 42 2 (sz - 1)) (44 + 13 * (((nx + 12) - 1) % 12).toNat + 11) 3 = M (44 + 13 * (((nx + 12) - 1) % 12).toNat + 11) 3 from (uM_ne (by omega)).trans (uM_ne (by omega))]; exact hz) (fun M9 hx9 hy9 hc9 => ?_)
  show gm_Wp X LX d _ _ 55 53 _ [] n K _ _ Q
  refine gm_sz (gm_p_const (pc := 53) (i := .iconst 1) (v := gm_vi 1) (by decide +kernel) (by decide +kernel)) ?_
  exact gm_r_int (pc := 54) (by decide +kernel) (Or.inr ⟨(by decide +kernel), Or.inr rfl⟩) (hq M9 ⟨hx9, hy9, hc9⟩)
theorem im_c59 (hd : 5 ≤ d) (hE : E0 n K R) (hC : CST M) (hz : SZ M 3) (hq : ∀ M9, CPY M M9 29 3 → Q (.inl none) n K (gm_uR R 29 8 (R 3 8)) (gm_uM M9 1 6 1)) : gm_Wp X LX d bc bs 59 0 (gm_ent 59 [gm_vr 1]) [] n K R M Q := by
  refine gm_sz (gm_p_load (pc := 0) (i := .aload_n 0) (sr := 2) (j := 0) (by decide +kernel) rfl rfl rfl) ?_
  refine gm_sz (fw_gr (pc := 1) (ix := 30) (ci := 0) (j := 5) (r := 29) (by decide +kernel) (e0k hE (k := 1) (c := 0) (by decide +kernel)) (by decide +kernel) (by decide +kernel) (e0r hE (k := 1) (j := 5) (r := 29) (by decide +kernel))) ?_
  refine gm_sz (gm_p_load (pc := 4) (i := .aload_n 0) (sr := 2) (j := 0) (by decide +kernel) rfl rfl rfl) ?_
  refine gm_sz (fw_gr (pc := 5) (ix := 23) (ci := 0) (j := 3) (r := 3) (by decide +kernel) (e0k hE (k := 1) (c := 0) (by decide +kernel)) (by decide +kernel) (by decide +kernel) (e0r hE (k := 1) (j := 3) (r := 3) (by decide +kernel))) ?_
  refine gm_c_virt (k := 29) (ci := 1) (mj := 57) (ix := 114) (pc := 8) (as := [gm_vr 3]) (st := []) (d' := d - 1) (bc' := 0) (bs' := 0) (by decide +kernel) (by decide +kernel) (by decide +kernel) (by decide +kernel) (e0k hE (k := 29) (c := 1) (by decide +kernel)).1 (e0k hE (k := 29) (c := 1) (by decide +kernel)).2 (by decide) (by decide +kernel) (show 1 = gm_na 57 by decide +kernel) (fw_c1 fw_sr) (show 2 ≤ gm_ml 57 by decide +kernel) (Nat.le_of_ble_eq_true rfl) (by omega) (Nat.zero_le _) (Nat.zero_le _) ?_
  refine st_copy (b := 29) (s := 3) (by omega) (ks_29 hE) (ks_3 hE) (by omega) (mx_29 hC) hz (fun M9 hx9 hy9 hc9 => ?_)
  show gm_Wp X LX d _ _ 59 11 _ [] n K _ _ Q
  refine gm_sz (gm_p_load (pc := 11) (i := .aload_n 0) (sr := 2) (j := 0) (by decide +kernel) rfl rfl rfl) ?_
  refine gm_sz (gm_p_const (pc := 12) (i := .iconst 1) (v := gm_vi 1) (by decide +kernel) (by decide +kernel)) ?_
  refine gm_sz (fw_pz (pc := 13) (ix := 33) (ci := 0) (j := 6) (M' := gm_uM M9 1 6 1) (by decide +kernel) (e0k hE (k := 1) (c := 0) (by decide +kernel)) (by decide +kernel) (by decide +kernel) (by decide +kernel) (Or.inr rfl) rfl) ?_
  exact gm_r_void (pc := 16) (by decide +kernel) (by decide +kernel) (hq M9 ⟨hx9, hy9, hc9⟩)
end AC11
end
