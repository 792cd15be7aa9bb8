/-! 78c.st -/
section
/-! THE LAW'S START, laid by wip/am/gen28.py: classes, array classes, strings and statics as the tables have them; from the judgement of its body to the law's end. -/
def gm_kni : List (Nat × List Nat) := [(184, [542, 544, 546, 548, 550, 552, 554, 556, 558, 560, 562, 564, 566, 568, 570, 572, 574, 576]), (192, [276, 278, 280, 282, 284, 286, 288, 290, 292, 294, 296, 298, 300, 302, 304]), (198, [207, 209, 211, 213]), (308, [319, 321, 323]), (327, [370, 372, 374, 376, 378, 380, 382]), (387, [405, 407, 409, 411, 413, 415, 417, 419, 421]), (425, [436, 438, 440, 442]), (446, [497, 499, 495]), (455, [471, 473, 475, 477, 479, 481, 483, 485]), (503, [519, 520, 513, 515, 517]), (679, [1193, 1195]), (1679, [1728, 1730, 1732, 1734, 1736, 1738, 1740, 1742, 1744, 1746, 1748, 1750, 1752, 1754, 1756, 1758, 1760, 1762, 1764, 1766, 1768, 1770, 1772, 1774, 1776, 1778, 1780, 1782, 1784, 1786, 1788, 1790, 1792, 1794, 1796, 1798, 1800, 1802, 1804])]
theorem gm_kni_ok : (List.range 12).all (fun c => match gm_cs[c]?, gm_kni[c]? with
  | some q, some r => decide (gm_tb (r.1) = some (.instantiable q.1 q.2.2)) && decide ((u_ws q.1 q.2.1 q.2.2).map some = r.2.map (fun i => gm_tb i))
  | _, _ => false) = true := by decide +kernel
def gm_stp : List Nat := [855, 908, 909, 920, 934, 943, 944, 953, 954, 955, 956, 957, 958, 959, 960, 961, 962, 971, 985, 990, 1007, 1016, 1022, 1027, 1032, 1037, 1046, 1048, 1059, 1113, 1148, 1165, 1209, 1236, 1281, 1309, 1340, 1342, 1373, 1391, 1415, 1416, 1436, 1494, 1535, 1577, 1673, 1863, 1894, 1899, 1916, 1925, 1930, 1939, 1948, 1953, 1966, 1971, 1972, 1977, 1978, 1979, 1980, 1997, 2002, 2003, 2012, 2013, 2014, 2015, 2016, 2017, 2018, 2019, 2020]
theorem gm_stp_ok : (List.range 75).all (fun i => match gm_sr_[i]?, gm_stp[i]? with
  | some q, some r => decide (gm_tb (r) = some (.stringRef q.1 q.2.1 q.2.2.1)) && decide (q.2.2.2 = i)
  | _, _ => false) = true := by decide +kernel
theorem gm_sl_len : gm_sl.length = 75 ∧ gm_sr_.length = 75 := by decide +kernel
theorem gm_sl_sm : gm_sl.all (fun k => decide (k < 100)) = true := by decide +kernel
/-- the other words -/
def gm_wst : List Jvm.Cond := [.castable "[I" "java/lang/Cloneable", .arrayOver (.object "GlacierMail$State"), .arrayClass .int, .arrayClass .byte, .arrayClass .long, .laysStatic "java/lang/Throwable" "UNASSIGNED_STACK" "[Ljava/lang/StackTraceElement;", .laysStatic "java/lang/Throwable" "SUPPRESSED_SENTINEL" "Ljava/util/List;", .initialized "java/lang/Throwable", .laysStatic "java/lang/String" "COMPACT_STRINGS" "Z", .initialized "java/lang/String", .laysStatic "jdk/internal/util/Preconditions" "SIOOBE_FORMATTER" "Ljava/util/function/BiFunction;", .initialized "jdk/internal/util/Preconditions"] ++ ((List.range 5).map (fun x => .castable (gm_xn x) (gm_xn x)) ++ (gm_dcs.map (fun y => .declares y) ++ gm_nst.map (fun q => .methodLinkNest q.1 q.2.1 q.2.2.1 q.2.2.2)))
theorem gm_wst_ok : gm_wst.all (fun w => gm_mem w) = true := by decide +kernel
/-- what the Statement gives of a string -/
def gm_swd (q : String × Nat × String × Nat) : List Jvm.Cond := [.exactly (.string q.1 q.2.1) "java/lang/String", .eq (.field (.string q.1 q.2.1) "java/lang/String" "coder" "B") (.int 0), .arrayOf (.field (.string q.1 q.2.1) "java/lang/String" "value" "[B") .byte, .eq (.length (.field (.string q.1 q.2.1) "java/lang/String" "value" "[B")) (.int (Int32.ofNat (gm_sl.getD q.2.2.2 0)))] ++ (List.range (gm_sl.getD q.2.2.2 0)).map (fun j => .eq (.elem (.field (.string q.1 q.2.1) "java/lang/String" "value" "[B") (.int (Int32.ofNat j))) (.int ((gm_sb.getD q.2.2.2 []).getD j 0)))
/-- the one list lies in the other, in its order -/
def gm_ssq : List Jvm.Cond → List Jvm.Cond → Bool
  | [], _ => true
  | _ :: _, [] => false
  | w :: ws, v :: vs => if w = v then gm_ssq ws vs else gm_ssq (w :: ws) vs
theorem gm_ssq_s : ∀ (vs ws : List Jvm.Cond), gm_ssq ws vs = true → ∀ w ∈ ws, w ∈ vs := by
  intro vs
  induction vs with
  | nil => intro ws h w hw; cases ws with
    | nil => exact hw
    | cons a b => cases h
  | cons v vs ih =>
    intro ws h w hw
    cases ws with
    | nil => cases hw
    | cons a b =>
      unfold gm_ssq at h
      split at h
      · rename_i e
        rcases List.mem_cons.mp hw with rfl | hw
        · rw [e]; exact List.mem_cons_self
        · exact List.mem_cons_of_mem _ (ih b h w hw)
      · exact List.mem_cons_of_mem _ (ih (a :: b) h w hw)
def gm_nrw : List Jvm.Cond := [.eq (.static "java/lang/String" "COMPACT_STRINGS" "Z") (.int 1), .isRef (.static "jdk/internal/util/Preconditions" "SIOOBE_FORMATTER" "Ljava/util/function/BiFunction;"), .isRef (.static "java/lang/Throwable" "UNASSIGNED_STACK" "[Ljava/lang/StackTraceElement;"), .isRef (.static "java/lang/Throwable" "SUPPRESSED_SENTINEL" "Ljava/util/List;")] ++ gm_sr_.flatMap gm_swd
def gm_flt : List Jvm.Cond := flatC (Jvm.Cond.and given_1 narrow_1)
set_option maxRecDepth 100000 in
theorem gm_nrw_ok : gm_ssq gm_nrw gm_flt = true := by decide +kernel
/-- what isn't caught by another's name -/
def gm_ncs : List Jvm.Cond := (List.range 5).flatMap fun x => ((List.range 5).filter (fun y => !(x == y))).map fun y => .not (.castable (gm_xn x) (gm_xn y))
set_option maxRecDepth 100000 in
theorem gm_ncs_ok : gm_ncs.all (fun w => gm_flt.any (fun v => decide (w = v))) = true := by decide +kernel
section ST
variable {p : Program} {e : Env} {s : State} {m : MethodId} {below : List Frame} {meth : Method} {c : Code}
theorem gm_known {args : Array Value} (hts : ∀ w ∈ lw_tbl, w.before args s = true) : ∃ D : va_G, ∀ (c : Nat) (q : vw_C), gm_cs[c]? = some q → u_Kn s q.1 q.2.1 q.2.2 (D.1 c) (D.2 c) := by
  have h0 : ∀ c : Nat, ∃ z : ClassId × (Nat → Nat), ∀ q : vw_C, gm_cs[c]? = some q → u_Kn s q.1 q.2.1 q.2.2 z.1 z.2 := by
    intro c
    by_cases hc : c < 12
    · have h1 := List.all_eq_true.mp gm_kni_ok c (List.mem_range.mpr hc)
      cases hq : gm_cs[c]? with
      | none => rw [hq] at h1; cases h1
      | some q =>
        cases hr : gm_kni[c]? with
        | none => rw [hq, hr] at h1; cases h1
        | some r =>
          rw [hq, hr] at h1
          simp only [Bool.and_eq_true, decide_eq_true_eq] at h1
          obtain ⟨cC, iS, h⟩ := u_known (n := q.2.2) (C := q.1) (T := q.2.1) (N := q.2.2) hts (fun w hw => by
            have h2 : some w ∈ r.2.map (fun i => gm_tb i) := by rw [← h1.2]; exact List.mem_map_of_mem hw
            obtain ⟨i, -, h3⟩ := List.mem_map.mp h2
            exact gm_tb_in h3) (hts _ (gm_tb_in h1.1))
          exact ⟨(cC, iS), fun q' e => by cases e; exact h⟩
    · refine ⟨(0, fun _ => 0), fun q hq => absurd ?_ hc⟩
      exact (List.getElem?_eq_some_iff.mp hq).1
  obtain ⟨f, hf⟩ := Classical.axiomOfChoice h0
  exact ⟨(fun c => (f c).1, fun c => (f c).2), fun c q h => hf c q h⟩
theorem gm_arrA {args : Array Value} {ty : FieldType} (h : (Jvm.Cond.arrayClass ty).before args s = true) (hty : ∀ C, ty ≠ .object C) : ∃ cA : ClassId, ArrOfT s cA ty ∧ va_RA s cA ty := by
  obtain ⟨cA, kA, comp, h1, h2, h3⟩ := Cond.arrayClass_spec h
  refine ⟨cA, fun n z => ⟨fun k h => (by cases h), kA, h2, comp, h3⟩, ?_⟩
  cases ty with
  | object C => exact absurd rfl (hty C)
  | _ => exact h1
theorem gm_arrO {args : Array Value} {C : String} (h : (Jvm.Cond.arrayOver (.object C)).before args s = true) : ∃ cA : ClassId, ArrOfT s cA (.object C) ∧ va_RA s cA (.object C) := by
  obtain ⟨comp, cA, kA, h1, h2, h3, h4, h5⟩ := Cond.arrayOver_spec h
  exact ⟨cA, fun n z => ⟨fun k h => (by cases h), kA, h3, comp, h4⟩, kA, comp, h3, h4, h1, h5⟩
theorem gm_strs {args : Array Value} {A : Nat → Prop} (hts : ∀ w ∈ lw_tbl, w.before args s = true) (hg : ∀ w ∈ gm_flt, w.before args s = true) (hA : ∀ a : Nat, a < s.heap.size → ¬ A a) :
    ∃ adK adV : Nat → Nat, (∀ i, i < gm_sl.length → vk_S 1 [gm_sl.getD i 0] [gm_sb.getD i []] (fun _ => adK i) (fun _ => adV i) A s s.heap) ∧ ∀ q ∈ gm_sr_, vk_R q.1 q.2.1 q.2.2.1 (adK q.2.2.2) s := by
  have hn : ∀ q ∈ gm_sr_, ∀ w ∈ gm_swd q, w.before args s = true := fun q hq w hw => hg w (gm_ssq_s _ _ gm_nrw_ok w (List.mem_append.mpr (Or.inr (List.mem_flatMap.mpr ⟨q, hq, hw⟩))))
  have h0 : ∀ i : Nat, ∃ z : Nat × Nat, ∀ q, gm_sr_[i]? = some q → vk_S 1 [gm_sl.getD i 0] [gm_sb.getD i []] (fun _ => z.1) (fun _ => z.2) A s s.heap ∧ vk_R q.1 q.2.1 q.2.2.1 z.1 s := by
    intro i
    by_cases hi : i < 75
    · have h1 := List.all_eq_true.mp gm_stp_ok i (List.mem_range.mpr hi)
      cases hq : gm_sr_[i]? with
      | none => rw [hq] at h1; cases h1
      | some q =>
        cases hr : gm_stp[i]? with
        | none => rw [hq, hr] at h1; cases h1
        | some r =>
          rw [hq, hr] at h1
          simp only [Bool.and_eq_true, decide_eq_true_eq] at h1
          obtain ⟨h1, hqi⟩ := h1
          have hw := hn q (List.mem_of_getElem? hq)
          have hlen : gm_sl.getD i 0 < 100 := by
            have h2 : i < gm_sl.length := by rw [gm_sl_len.1]; exact hi
            have h3 := List.all_eq_true.mp gm_sl_sm (gm_sl[i]) (List.getElem_mem h2)
            rw [List.getD_eq_getElem?_getD, List.getElem?_eq_getElem h2]
            simpa using h3
          have w1 : ∀ w ∈ [Jvm.Cond.exactly (.string q.1 q.2.1) "java/lang/String", .eq (.field (.string q.1 q.2.1) "java/lang/String" "coder" "B") (.int 0), .arrayOf (.field (.string q.1 q.2.1) "java/lang/String" "value" "[B") .byte, .eq (.length (.field (.string q.1 q.2.1) "java/lang/String" "value" "[B")) (.int (Int32.ofNat (gm_sl.getD i 0)))], w.before args s = true := fun w hm => hw w (by unfold gm_swd; rw [hqi]; exact List.mem_append.mpr (Or.inl hm))
          have w2 : ∀ j, j < gm_sl.getD i 0 → (Jvm.Cond.eq (.elem (.field (.string q.1 q.2.1) "java/lang/String" "value" "[B") (.int (Int32.ofNat j))) (.int ((gm_sb.getD i []).getD j 0))).before args s = true := fun j hj => hw _ (by unfold gm_swd; rw [hqi]; exact List.mem_append.mpr (Or.inr (List.mem_map.mpr ⟨j, List.mem_range.mpr hj, rfl⟩)))
          obtain ⟨adK, adV, g1, g2⟩ := vk_Sof (args := args) (s := s) (N := 1) (tm := fun _ => .string q.1 q.2.1) (len := [gm_sl.getD i 0]) (byt := [gm_sb.getD i []]) (A := A)
            (fun k hk => by obtain rfl : k = 0 := by omega
                            show gm_sl.getD i 0 < 2 ^ 31
                            omega)
            (fun _ _ => w1 _ List.mem_cons_self) (fun _ _ => w1 _ (List.mem_cons_of_mem _ List.mem_cons_self)) (fun _ _ => w1 _ (List.mem_cons_of_mem _ (List.mem_cons_of_mem _ List.mem_cons_self)))
            (fun k hk => by obtain rfl : k = 0 := by omega
                            exact w1 _ (List.mem_cons_of_mem _ (List.mem_cons_of_mem _ (List.mem_cons_of_mem _ List.mem_cons_self))))
            (fun k hk j hj => by obtain rfl : k = 0 := by omega
                                 exact w2 j hj)
            (fun a b ha hb hab => absurd (show a = b by omega) hab) hA
          refine ⟨(adK 0, adV 0), fun q' e => ?_⟩
          cases e
          refine ⟨⟨fun k hk => ?_, fun a b ha hb _ => by omega⟩, vk_R.of (hts _ (gm_tb_in h1)) (g2 0 (by omega))⟩
          obtain rfl : k = 0 := by omega
          exact g1.1 0 hk
    · refine ⟨(0, 0), fun q hq => absurd ?_ hi⟩
      rw [← gm_sl_len.2]
      exact (List.getElem?_eq_some_iff.mp hq).1
  obtain ⟨f, hf⟩ := Classical.axiomOfChoice h0
  refine ⟨fun i => (f i).1, fun i => (f i).2, fun i hi => ?_, fun q hq => ?_⟩
  · rw [gm_sl_len.1, ← gm_sl_len.2] at hi
    exact (hf i _ (List.getElem?_eq_getElem hi)).1
  · obtain ⟨i, hi⟩ := List.getElem?_of_mem hq
    have h1 := (hf i q hi).2
    have h2 : i < 75 := by rw [← gm_sl_len.2]; exact (List.getElem?_eq_some_iff.mp hi).1
    have h3 := List.all_eq_true.mp gm_stp_ok i (List.mem_range.mpr h2)
    rw [hi] at h3
    cases hr : gm_stp[i]? with
    | none => rw [hr] at h3; cases h3
    | some r =>
      rw [hr] at h3
      simp only [Bool.and_eq_true, decide_eq_true_eq] at h3
      show vk_R q.1 q.2.1 q.2.2.1 (f q.2.2.2).1 s
      rw [h3.2]
      exact h1
def R_law : String := "GlacierMailLaw"
def lw_P (b : Addr) (xs : List Int32) (args : Array Value) (s : State) : Prop := args = #[.ref b] ∧ s.IntsAt b xs ∧ xs.length ≤ 3072 ∧ (Jvm.Cond.and given_1 narrow_1).before args s = true
def lw_Q (_ : Array Value) (s : State) (o : Outcome) (t : State) : Prop := o = .returned (some (.int 1)) ∧ Framed s o t [] 601024 7293034
def lw_Z (below : List Frame) (a : Array Value) (s : State) : State → Prop := fun t => ∃ o, t.status = .running ∧ Ended t below o ∧ lw_Q a s o t
/-- what is owed of the law's body, over the abstract machine -/
def gm_Law : Prop := ∀ (X : Int → Int) (LX : Nat), LX ≤ 3072 → (∀ j, gm_ir (X j)) → gm_Wp X LX 280 601024 7293034 370 0 (gm_ent 370 [gm_vo 2000]) [] 0 (fun _ => (0, 0)) (fun _ _ => 0) (fun _ _ => 0) (fun o _ _ _ _ => o = .inl (some (gm_vi 1)))
theorem gm_frame {L : List Loc} {o : Outcome} {t : State} {k n : Nat} (h : FrameEnd s o t L k n) (hL : ∀ q ∈ L, s.heap.size ≤ q.base) : Framed s o t [] k n := by
  obtain ⟨h1, h2, h3, h4, h5, h6, h7, h8⟩ := h
  refine ⟨h1, h2, h3, h4, h5, h6, h7, fun a c ha => ?_⟩
  obtain ⟨c', g1, g2, g3, g4⟩ := h8 a c ha
  refine ⟨c', g1, g2, g3, fun i _ => g4 i fun hm => ?_⟩
  have g5 : s.heap.size ≤ a := hL _ hm
  have g6 : a < s.heap.size := (Array.getElem?_eq_some_iff.mp ha).1
  exact absurd g5 (Nat.not_le.mpr g6)
set_option maxHeartbeats 4000000 in
theorem gm_start (l : Launch) (hflags : l.flags = flags0) {b L : Nat} {xs : Nat → Int32} (hL : L ≤ 3072) (hW : gm_Law)
    (hexec : p.tables.exec = Jvm.exec) (hb : c.code = code) (hr : meth.sig.returnType = ret) (hml : c.maxLocals = 7) (hown : s.vm.findClass R_law = some m.cls) (hts : ∀ w ∈ lw_tbl, w.before #[Value.ref b] s = true) (hX : va_X b L xs s s.heap) (hbl : b < s.heap.size) (hlk : meth.locks = false) (hgv : (Jvm.Cond.and given_1 narrow_1).before #[Value.ref b] s = true) (hnm : meth.name = "law") (htab : c.exceptionTable.toList = []) :
    W p l e room_1 s m #[Value.ref b] below meth c s.heap [] 0 0 (lw_Z below #[Value.ref b] s) (entryFrame m ([Value.ref b] : List Value).toArray 7) := by
  have hg : ∀ w ∈ gm_flt, w.before #[Value.ref b] s = true := flat_of_before _ hgv
  have hst : ∀ w ∈ gm_wst, w.before #[Value.ref b] s = true := fun w hw => hts w (gm_mem_in (List.all_eq_true.mp gm_wst_ok w hw))
  have hnr : ∀ w ∈ gm_nrw, w.before #[Value.ref b] s = true := fun w hw => hg w (gm_ssq_s _ _ gm_nrw_ok w hw)
  obtain ⟨D, hD⟩ := gm_known hts
  obtain ⟨t0, a0, b0⟩ := gm_arrA (ty := .int) (hst _ (by decide +kernel)) (fun _ h => by cases h)
  obtain ⟨t1, a1, b1⟩ := gm_arrA (ty := .byte) (hst _ (by decide +kernel)) (fun _ h => by cases h)
  obtain ⟨t2, a2, b2⟩ := gm_arrA (ty := .long) (hst _ (by decide +kernel)) (fun _ h => by cases h)
  obtain ⟨t3, a3, b3⟩ := gm_arrO (C := "GlacierMail$State") (hst _ (by decide +kernel))
  obtain ⟨A, hA⟩ : ∃ A : Nat → Prop, A = fun q => s.heap.size ≤ q := ⟨_, rfl⟩
  have hA0 : ∀ a : Nat, a < s.heap.size → ¬ A a := fun a ha h => by rw [hA] at h; have h : s.heap.size ≤ a := h; omega
  obtain ⟨adK, adV, hS1, hS2⟩ := gm_strs hts hg hA0
  have hlt : gm_sl.length ≤ 2000 := by rw [gm_sl_len.1]; decide
  obtain ⟨aK, k0, k1, k2⟩ : ∃ aK : Nat → Nat, aK 2000 = b ∧ (∀ i, i < 75 → aK i = adK i) ∧ ∀ i, i < 75 → aK (1000 + i) = adV i := ⟨fun i => if i = 2000 then b else if 1000 ≤ i then adV (i - 1000) else adK i, if_pos rfl, fun i hi => (if_neg (by omega)).trans (if_neg (by omega)), fun i hi => (if_neg (by omega)).trans ((if_pos (by omega)).trans (by rw [Nat.add_sub_cancel_left]))⟩
  have hev : gm_Ev (fun j => (xs j.toNat).toInt) L aK adV A s := by
    refine ⟨fun i hi => ?_, fun q hq => ?_, vx_Zqof (hst _ (by decide +kernel)) (hst _ (by decide +kernel)) (hnr _ (by decide +kernel)) hA0, vx_Zqof (hst _ (by decide +kernel)) (hst _ (by decide +kernel)) (hnr _ (by decide +kernel)) hA0, ⟨va_Zof (hst _ (by decide +kernel)) (hst _ (by decide +kernel)) (va_eqt (hnr _ (by decide +kernel))) hA0, va_Zqof (hst _ (by decide +kernel)) (hst _ (by decide +kernel)) (hnr _ (by decide +kernel)) hA0, fun i hi => k2 i (Nat.lt_of_lt_of_eq hi gm_sl_len.1)⟩, ?_, by (rw [k0]; exact hbl), by (rw [k0]; exact hA0 _ hbl), va_AO.of (hst _ (by decide +kernel)), fun q hq => ?_, ?_, fun x y hx hy => ?_, fun y hy => ?_⟩
    · have h1 : aK i = adK i := k1 i (Nat.lt_of_lt_of_eq hi gm_sl_len.1)
      simp only [h1]
      exact hS1 i hi
    · obtain ⟨i, hi⟩ := List.getElem?_of_mem hq
      have h2 : i < 75 := by rw [← gm_sl_len.2]; exact (List.getElem?_eq_some_iff.mp hi).1
      have h3 := List.all_eq_true.mp gm_stp_ok i (List.mem_range.mpr h2)
      rw [hi] at h3
      have h4 : q.2.2.2 = i := by
        cases hr : gm_stp[i]? with
        | none => rw [hr] at h3; cases h3
        | some r => rw [hr] at h3; simp only [Bool.and_eq_true, decide_eq_true_eq] at h3; exact h3.2
      have h1 : aK q.2.2.2 = adK q.2.2.2 := k1 _ (by rw [h4]; exact h2)
      simp only [h1]
      exact hS2 q hq
    · have h2 : (fun j : Nat => Int32.ofInt ((fun j : Int => (xs j.toNat).toInt) (j : Int))) = xs := by
        funext j
        show Int32.ofInt (xs (Int.toNat (j : Int))).toInt = xs j
        rw [Int32.ofInt_toInt, Int.toNat_natCast]
      simp only [k0]
      rw [h2]
      exact hX
    · have h1 : Jvm.Cond.methodLinkNest q.1 q.2.1 q.2.2.1 q.2.2.2 ∈ gm_wst := List.mem_append.mpr (Or.inr (List.mem_append.mpr (Or.inr (List.mem_append.mpr (Or.inr (List.mem_map.mpr ⟨q, hq, rfl⟩))))))
      exact va_tabs (U := s) rfl rfl (hst _ h1)
    · exact va_tabs (U := s) rfl rfl (hst (.castable "[I" "java/lang/Cloneable") (by decide +kernel))
    · by_cases hxy : x = y
      · rw [if_pos hxy, ← hxy]
        have h1 : Jvm.Cond.castable (gm_xn x) (gm_xn x) ∈ gm_wst := List.mem_append.mpr (Or.inr (List.mem_append.mpr (Or.inl (List.mem_map.mpr ⟨x, List.mem_range.mpr hx, rfl⟩))))
        exact va_tabs (U := s) rfl rfl (hst _ h1)
      · rw [if_neg hxy]
        have h1 : Jvm.Cond.not (.castable (gm_xn x) (gm_xn y)) ∈ gm_ncs := List.mem_flatMap.mpr ⟨x, List.mem_range.mpr hx, List.mem_map.mpr ⟨y, List.mem_filter.mpr ⟨List.mem_range.mpr hy, by simpa using hxy⟩, rfl⟩⟩
        obtain ⟨v, hv, h2⟩ := List.any_eq_true.mp (List.all_eq_true.mp gm_ncs_ok _ h1)
        have h3 : Jvm.Cond.not (.castable (gm_xn x) (gm_xn y)) = v := of_decide_eq_true h2
        exact va_Nc.of (args := #[Value.ref b]) (h3 ▸ hg v hv)
    · have h1 : Jvm.Cond.declares y ∈ gm_wst := List.mem_append.mpr (Or.inr (List.mem_append.mpr (Or.inr (List.mem_append.mpr (Or.inl (List.mem_map.mpr ⟨y, hy, rfl⟩))))))
      exact va_tabs (U := s) rfl rfl (hst _ h1)
  have hcx : gm_Cx 370 p l s m #[Value.ref b] meth c := by
    refine ⟨hexec, hb, hml, hown, hr, hlk, fun w hw => hts w (List.mem_filter.mp hw).1, hnm, ?_, by decide, htab⟩
    unfold Launch.stackTraces
    rw [hflags]
    decide +kernel
  have hK : va_K D gm_cs (gm_ty fun i => ([t0, t1, t2, t3][i]?).getD 0) s := by
    refine ⟨hD, fun k q hq => ?_⟩
    match k, hq with
    | 0, hq => cases hq; exact ⟨a0, b0⟩
    | 1, hq => cases hq; exact ⟨a1, b1⟩
    | 2, hq => cases hq; exact ⟨a2, b2⟩
    | 3, hq => cases hq; exact ⟨a3, b3⟩
  have hsr : gm_sr (fun _ => 0) aK 0 [gm_vo 2000] [Value.ref b] := ⟨_, [], rfl, ⟨b, rfl, fun _ => k0.symm⟩, rfl⟩
  have hgo := hW (fun j => (xs j.toNat).toInt) L hL (fun j => ⟨by have := Int32.le_toInt (xs j.toNat); omega, by have := Int32.toInt_lt (xs j.toNat); omega⟩) p l e room_1 s m #[Value.ref b] below meth c D (fun i => ([t0, t1, t2, t3][i]?).getD 0) aK adV A (fun _ => 0) 0 601024 7293034 hcx hev (Nat.le_of_ble_eq_true rfl) (Nat.le_of_ble_eq_true rfl) (Nat.le_refl _) (Nat.le_refl _) (fun q hq => by rw [hA]; exact hq) (fun _ => 0) s.heap [] 0 0 _ [] gm_xt.rf (by omega) (by omega) ⟨hK, fun k q hq => by (unfold gm_wl at hq; simp at hq), ⟨fun i j p q hp => by (unfold gm_wl at hp; simp at hp), fun k q hq => by (unfold gm_wl at hq; simp at hq)⟩, va_S.rf, ⟨by decide, fun _ _ => Or.inl (Nat.le_refl _)⟩⟩ (gm_lr_ent (mj := 370) hsr (fun v hv => by (rw [List.mem_singleton.mp hv]; decide)) (by decide)) rfl
  intro T hT Xs
  have e0 : (F0 m 0 ((lg_sl [Value.ref b] ++ List.replicate (gm_ml 370 - (lg_sl [Value.ref b]).length) Slot.unset).toArray) [] : JFrame) = entryFrame m ([Value.ref b] : List Value).toArray 7 := (lg_entry_eq m [Value.ref b] 7).symm
  rw [e0] at hgo
  obtain ⟨t, g1, o, g2, g3, g4⟩ := hgo T hT Xs
  refine ⟨t, g1, o, g2, g3, ?_⟩
  rcases g4 with ⟨⟨⟨v, u, α, n, K, R, M, rfl, hv, hq, -⟩, -⟩, L9, h5, h6⟩ | ⟨q, rfl, h7⟩
  · cases hq
    obtain ⟨w, rfl, hw⟩ := hv
    refine ⟨by rw [show w = .int 1 from hw], gm_frame h5 fun q hq => ?_⟩
    have h8 := h6 q hq
    rw [hA] at h8
    exact h8
  · exfalso
    obtain ⟨E, ce, L9, ⟨⟨x, α, n, K, R, M, -, -, hq, -⟩, -⟩, -⟩ := h7
    cases hq
set_option maxHeartbeats 4000000 in
theorem lw_walk (hW : gm_Law) (l : Launch) (hflags : l.flags = flags0) (b : Addr) (xs : List Int32) : MetFree l x (headSpec (Jvm.Cond.code x code maxLocals ret :: tables_1) room_1) (lw_P b xs) (fun _ _ _ _ _ => True) lw_Q := by
  refine MetFree.of_bodyS (code := code) (maxLocals := maxLocals) (ret := ret) (by decide) ?_ ?_
  · intro args s m h hn
    obtain ⟨meth, c, h1, h2, h3, h4, h5, h6, -, -⟩ := Cond.code_spec hn (atoms_spec (ws := Jvm.Cond.code x code maxLocals ret :: tables_1) h _ List.mem_cons_self)
    exact ⟨meth, c, h1, h2, h3, h4, h5, h6⟩
  · intro p e s m args below meth c s₁ B hml0 hP _
    obtain ⟨rfl, hx, hbd, hgv⟩ := hP
    obtain ⟨scr, harrAt, hlist, hof, hsmall⟩ := hx
    obtain ⟨hcb, hkn, -, -⟩ := State.arrayAt?_spec harrAt
    have hown : s.vm.findClass R_law = some m.cls := findClass_of_methodNamed B.named
    have hts0 : ∀ c ∈ (Jvm.Cond.code x code maxLocals ret :: tables_1), c.before #[Value.ref b] s = true := atoms_spec (ws := Jvm.Cond.code x code maxLocals ret :: tables_1) B.pre
    have hts : ∀ w ∈ lw_tbl, w.before #[Value.ref b] s = true := k2_hts_sels lw_privs (fun w hw => hts0 w (List.mem_cons_of_mem _ hw)) lw_privs_ok
    have hml : c.maxLocals = 7 := B.maxLocals_eq (hts0 _ List.mem_cons_self)
    have X₀ : Stand p l e room_1 s m #[Value.ref b] below meth c s₁ [] 0 0 := Stand.of_body B
    have hh0 : s₁.heap = s.heap := by rw [B.state]; rfl
    have htab : c.exceptionTable.toList = [] := by
      obtain ⟨meth9, c9, h1, h2, -, -, -, -, h7, -⟩ := Cond.code_spec B.named (hts0 _ List.mem_cons_self)
      cases Option.some.inj (h1.symm.trans B.method)
      cases Option.some.inj (h2.symm.trans (Stand.of_body B).code)
      rw [Array.isEmpty_iff.mp h7]
    have hnm : meth.name = "law" := (name_of_methodNamed B.named B.method).1
    have hsz : scr.slots.size = xs.length := by rw [← Array.length_toList, hlist, List.length_map]
    have hval : ∀ j : Nat, j < xs.length → scr.slots[j]? = some (.int (xs.getD j 0)) := fun j hj => by
      rw [← Array.getElem?_toList, hlist]
      simp [hj]
    have hbl : b < s.heap.size := (Array.getElem?_eq_some_iff.mp hcb).1
    have hX : va_X b xs.length (fun j => xs.getD j 0) s s.heap := ⟨scr, hcb, hof, hkn, hsz, hval⟩
    have K : W p l e room_1 s m #[Value.ref b] below meth c s₁.heap [] 0 0 (lw_Z below #[Value.ref b] s) (entryFrame m ([Value.ref b] : List Value).toArray 7) := by
      rw [hh0]
      exact gm_start l hflags hbd hW B.exec B.bytes B.returns hml hown hts hX hbl B.notSynchronized hgv hnm htab
    obtain ⟨t, a1, o, b1, b2, b3⟩ := K s₁ rfl X₀
    exact ⟨t, o, a1, b1, b2, b3⟩
end ST
end
/-! 78p.lg -/
section
/-! A STATIC CALL WITH A LONG: a reference, then a long behind it. -/
theorem gm_lr_ent2 {α adK : Nat → Nat} {n mj : Nat} {u0 u1 : gm_V} {ws : List Value} (h : gm_sr α adK n [u0, u1] ws) (hc : ¬ gm_sort u0 = 1) (hlen : 3 ≤ gm_ml mj) : gm_lr α adK n (gm_ml mj) (gm_ent mj [u0, u1]) ((lg_sl ws ++ List.replicate (gm_ml mj - (lg_sl ws).length) Slot.unset).toArray) := by
  obtain ⟨w0, ws0, rfl, c0, w1, ws1, rfl, c1, h9⟩ := h
  have h9 : ws1 = [] := h9
  subst h9
  have h1 : w0.category = 1 := gm_cat1 c0 hc
  have hl : (lg_sl [w0, w1]).length ≤ 3 := by
    unfold lg_sl
    by_cases h2 : w1.category = 2
    · simp [h1, h2]
    · simp [h1, h2]
  have e : lv_args 0 [w0, w1] = [(0, w0), (1, w1)] := by simp [lv_args, h1]
  refine ⟨by simp [gm_ent]; omega, _, lv_entry [w0, w1] (by omega), fun i v hi => ?_⟩
  rw [e]
  rcases i with _ | _ | i
  · have hi : some (some u0) = some (some v) := hi
    cases hi
    exact ⟨w0, c0, List.mem_cons_self⟩
  · have hi : some (some u1) = some (some v) := hi
    cases hi
    exact ⟨w1, c1, List.mem_cons_of_mem _ (List.mem_singleton.mpr rfl)⟩
  · have hi : (List.replicate (gm_ml mj - 2) (none : Option gm_V))[i]? = some (some v) := hi
    have := List.eq_of_mem_replicate (List.mem_of_getElem? hi)
    cases this
section G2
variable {X : Int → Int} {LX d bc bs mi pc : Nat} {L : gm_L} {st : List gm_V} {n : Nat} {K : gm_K} {R : gm_R} {M : gm_M} {Q : gm_Q}
theorem gm_met2 {mj : Nat} {vs : List gm_V} {avs : List Value} (hm : mj < 370) (hmx : gm_ow mj ≠ gm_mxi) (hh : gm_hh mj = []) (l : Launch) (hl : l.stackTraces = false) {D : va_G} {ti : Nat → ClassId} {adK adV α : Nat → Nat} {A' : Nat → Prop} {H : Heap}
    (hW : gm_Wp X LX d bc bs mj 0 (gm_ent mj vs) [] n K R M Q) (hE : gm_lr α adK n (gm_ml mj) (gm_ent mj vs) ((lg_sl avs ++ List.replicate (gm_ml mj - (lg_sl avs).length) Slot.unset).toArray)) (hP : va_P D gm_cs (gm_wl ti α n K R M) H) (hD : va_D A' (gm_wl ti α n K R M)) (hRv : gm_Rv n R) (hA' : ∀ q, H.size ≤ q → A' q) :
    vx_Met l (gm_mn mj) (gm_cwd mj :: gm_T) ({ frames := d, cells := bc, slots := bs, locals := d * 300 }) (va_Pc avs (fun U => U.heap = H ∧ gm_Ev X LX adK adV A' U ∧ va_K D gm_cs (gm_ty ti) U)) (gm_QC D ti adK A' α n Q) (gm_XC D ti A' α n Q) bc bs A' := by
  obtain ⟨-, hpl, -, -, -, hown9⟩ := gm_mck_spec hm
  refine vx_ofW (cc := gm_bc mj) (maxL := gm_ml mj) (ret := gm_rt mj) (ws' := gm_T) (hpl hmx) (by unfold gm_cwd; rw [if_pos hh]) ?_
  intro p e s m args below meth c s₁ B hml hex hv
  obtain ⟨rfl, hsz, hev, hK⟩ := hv
  have hts := atoms_spec (ws := gm_cwd mj :: gm_T) B.pre
  have hown : s.vm.findClass (gm_mn mj).cls = some m.cls := findClass_of_methodNamed B.named
  have hin : meth.name = (gm_mn mj).name := (name_of_methodNamed B.named B.method).1
  have htab : c.exceptionTable.toList = tableOf (gm_hh mj) := by
    rw [hh]
    cases hx : c.exceptionTable.toList with
    | nil => rfl
    | cons x xs => exact absurd (hex x (by rw [hx]; exact List.mem_cons_self)) id
  subst hsz
  rw [lg_entry_eq]
  exact hW p l e _ s m _ below meth c D ti adK adV A' α n bc bs ⟨B.exec, B.bytes, hml, by rw [hown9]; exact hown, B.returns, B.notSynchronized, fun w hw => hts w (List.mem_cons_of_mem _ hw), hin, hl, (by omega), htab⟩ hev (Nat.le_refl _) (Nat.le_refl _) (Nat.le_refl _) (Nat.le_refl _) hA' α s.heap [] 0 0 _ [] gm_xt.rf (by omega) (by omega) ⟨hK, hP, hD, va_S.rf, hRv⟩ hE rfl
theorem gm_c_stat2 {ix mj d' bc' bs' : Nat} {u0 u1 : gm_V} (h : gm_at mi pc = some (.invokestatic ix)) (hc : gm_cal (gm_ow mi) ix = some (2, mj)) (hmx : gm_ow mj ≠ gm_mxi) (hh : gm_hh mi = []) (hna : 2 = gm_na mj) (hcat : ¬ gm_sort u0 = 1) (hlen : 3 ≤ gm_ml mj) (hst : (st.map gm_cat).sum ≤ 8) (hd' : d' + 1 ≤ d) (hb1 : bc' ≤ bc) (hb2 : bs' ≤ bs)
    (hW : gm_Wp X LX d' bc' bs' mj 0 (gm_ent mj [u0, u1]) [] n K R M (gm_cont X LX d (bc - bc') (bs - bs') mi (pc + 3) L st Q)) : gm_Wp X LX d bc bs mi pc L (u1 :: u0 :: st) n K R M Q := by
  intro p l e Rm s m args below meth c D ti adK adV A α0 n0 mc ms hcx hev hd hd2 hmc hms hA α H locs cells slots ls sv hxt hc1 hc2 hR hL hS
  have hS : gm_sr α adK n ([u0, u1].reverse ++ st) sv := hS
  obtain ⟨w1, sv2, rfl, hw1, hS2⟩ := gm_sr_app hS
  have hdg := gm_dec hcx h rfl
  obtain ⟨hx, hb, hml, hown, -, -, hts, -, hl, -⟩ := id hcx
  obtain ⟨hKn, hP, hD, hSv, hRv⟩ := id hR
  obtain ⟨hj, i1, i2, -, -, i5, i6, -⟩ := gm_cal_spec hc
  obtain ⟨j1, -, j3, j4, j5, -⟩ := gm_mck_spec hj
  have hA1 := gm_sub_A hD hSv hA
  have hvs : gm_sr α adK n [u0, u1] w1.reverse := by have := gm_sr_rev hw1; rwa [List.reverse_reverse] at this
  have hM := gm_met2 (adV := adV) (ti := ti) (D := D) hj hmx (i6 (by omega)) l hl hW (gm_lr_ent2 hvs hcat hlen) hP (hD.self (sz := H.size)) hRv (fun q h => Or.inr h)
  have hcode : gm_cwd mj = .code (gm_mn mj) (gm_bc mj) (gm_ml mj) (gm_rt mj) := by unfold gm_cwd; rw [if_pos (i6 (by omega))]
  have hwl : w1.length = 2 := by have := (gm_sr_at hw1).1; simpa using this
  have hpre : PreS s H (va_Pc w1.reverse (fun U => U.heap = H ∧ gm_Ev X LX adK adV (va_A (gm_wl ti α n K R M) H.size) U ∧ va_K D gm_cs (gm_ty ti) U)) w1.reverse := ⟨gm_blind, fun U hU hWm => ⟨rfl, hU, gm_Ev_to hev hWm (by rw [hU]; exact hSv.1) (fun a h1 h2 => by rw [hU]; exact hSv.2.1 a h1 h2) hA1, va_K.moved hWm.alike hKn⟩⟩
  refine gm_tail (bc' := bc') (bs' := bs') hh hcx hev hd hd2 hmc hms hA hxt hb1 hb2 hc1 hc2 hSv hL hS2 hA1 (a := w1.reverse.toArray) ?_
  have hR1 : d' + 1 ≤ Rm.frames ∧ 8 + (gm_ml mj + 11) + d' * 300 ≤ Rm.locals := ⟨by omega, by omega⟩
  have hroom := lv_room (m := m) (pc := pc) (ls := ls) (rest := w1 ++ sv2) (st := sv2) (by rw [gm_sum_eq hS2]; exact hst)
  exact vx_runS (As := w1.reverse) (n := gm_na mj) (index := ix) ⟨hx, hb, hml, hown, hts⟩ hM ⟨callB_of (rm := { frames := d', cells := bc', slots := bs', locals := d' * 300 }) (gm_na mj) hts (gm_G1 hj) (by rw [hcode]) rfl rfl (hts _ i1) (hts _ (i2 (by omega))) ⟨j3.1, j3.2, j4⟩ hR1, hts _ (i5 (Or.inl rfl))⟩ hpre rfl (by rw [List.length_reverse, hwl, hna]) hL.2.choose_spec.1.1 (by rw [List.reverse_reverse]) hroom hdg ⟨by omega, by omega⟩
end G2
end
/-! 78q.yy -/
section
/-! YEARS of the class, for any number from 1 to 50 at once: the loop by hand. -/
def yy_A (a : ck_I) (s i : Option ck_A) : ck_AL := [some (.inr (.inr (.inl 1))), some (.inl a), s, i]
def yy_F (RF : List (Nat × Int × Nat)) (y : ck_I) : ck_F := ([], RF, [(3, 6, 6, y)])
def yy_C0 (RF : List (Nat × Int × Nat)) : ck_C := (yy_A (1, 50, []) none none, yy_F RF (0, 299, [(10, 0)]), 0, .inl 1, true)
def yy_C1 (RF : List (Nat × Int × Nat)) (s : Nat) : ck_C := (yy_A (1, 50, [(302, 0)]) (some (.inl (ck_one 0))) (some (.inl (ck_one 0))), yy_F RF (0, 298, [(303, 0)]), s, .inl 3, true)
def yy_C2 (RF : List (Nat × Int × Nat)) : ck_C := (yy_A (1, 50, [(302, 0)]) (some (.inl ck_top)) (some (.inl (1, 50, [(304, 1)]))), yy_F RF (1, 299, [(303, 1)]), 0, .inl 3, true)
theorem yy_gi {σ : Nat → Int} {a b x z : Int} {q : Nat} (ha : a ≤ x) (hb : x ≤ b) (hq : q < 1000000) (hx : x = σ q + z) : ck_gi σ (a, b, [(q, z)]) x := by
  refine ⟨ha, hb, fun p hp => ?_⟩
  rw [List.mem_singleton.mp hp]
  exact ⟨fun _ => hx, fun h => absurd h (by show ¬ 1000000 ≤ q; omega)⟩
theorem yy_u1 {σ : Nat → Int} {s : Nat} {v : Int} : ck_us σ s v s = v := if_pos rfl
theorem yy_u2 {σ : Nat → Int} {s q : Nat} {v : Int} (h : ¬ q = s) : ck_us σ s v q = σ q := if_neg h
theorem yy_mk {σ : Nat → Int} {L : gm_L} {x : Int} {a : ck_I} {s i : Option ck_A} (hl : L.length = 4) (h0 : L[0]? = some (some (gm_vr 1))) (h1 : L[1]? = some (some (gm_vi x))) (r1 : gm_ir x) (g1 : ck_gi σ a x) (h2 : ∀ b, s = some b → ∃ u, L[2]? = some (some u) ∧ ck_ga σ b u) (h3 : ∀ b, i = some b → ∃ u, L[3]? = some (some u) ∧ ck_ga σ b u) : ck_gl σ (yy_A a s i) L := by
  refine ⟨by rw [hl]; rfl, fun j b hb => ?_⟩
  rcases j with _ | _ | _ | _ | j
  · have hb : some (some (.inr (.inr (.inl 1)))) = some (some b) := hb
    cases hb
    exact ⟨_, h0, rfl⟩
  · have hb : some (some (.inl a)) = some (some b) := hb
    cases hb
    exact ⟨_, h1, x, rfl, r1, g1⟩
  · have hb : some s = some (some b) := hb
    injection hb with hb
    exact h2 b hb
  · have hb : some i = some (some b) := hb
    injection hb with hb
    exact h3 b hb
  · have hb : none = some (some b) := hb
    cases hb
/-- the locals in the loop -/
def yy_P (L : gm_L) (x i : Int) : Prop := L.length = 4 ∧ L[0]? = some (some (gm_vr 1)) ∧ L[1]? = some (some (gm_vi x)) ∧ (∃ s, L[2]? = some (some (gm_vi s)) ∧ gm_ir s) ∧ L[3]? = some (some (gm_vi i))
theorem yy_top {σ : Nat → Int} {s : Int} (r : gm_ir s) : ck_ga σ (.inl ck_top) (gm_vi s) := by
  have r1 : -2147483648 ≤ s := r.1
  have r2 : s < 2147483648 := r.2
  exact ⟨s, rfl, r, r1, by show s ≤ 2147483647; omega, fun q hq => nomatch hq⟩
section YY
variable {X : Int → Int} {LX : Nat} {O : gm_Or} {E : List (Nat × List ck_Sum)} {d n f : Nat} {W : List (Nat × Int × Int) × List (Nat × Int)} {outs : List ck_Oc}
theorem yy_l {RF : List (Nat × Int × Nat)} {σ : Nat → Int} {K0 : gm_K} {R0 : gm_R} {M0 : gm_M} {x y : Int} (hE : ck_nmu O ∧ ck_OkE O X LX E) (h3 : 3 ≤ n) (hx : 1 ≤ x ∧ x ≤ 50) (hy : 0 ≤ y) (hxy : y + x ≤ 299)
    (g61 : ck_go O none [] E 161 d n W outs [(56, yy_C2 RF)] f true [(56, yy_C2 RF, 0, 0, n)] 0 0 61 (yy_A (1, 50, [(302, 0)]) (some (.inl ck_top)) (some (.inl (0, 49, [(304, 0)])))) [] n (yy_F RF (0, 298, [(303, 0)])) = true)
    (g74 : ck_go O none [] E 161 d n W outs [] f true [] 0 0 74 (yy_A (1, 50, []) (some (.inl ck_top)) none) [] n ([], RF, []) = true) : ∀ (j : Nat) (i : Int) (L : gm_L) (K : gm_K) (R : gm_R) (M : gm_M), 0 ≤ i → i ≤ x → x - i ≤ (j : Int) → yy_P L x i → gm_Fx O n K R M → ck_gf σ ([], RF, []) n K R M → gm_ir (M 3 6) → M 3 6 = y + i → ck_fr W n K0 R0 M0 n K R M → gm_Wp X LX d 0 0 161 56 L [] n K R M (ck_Q O σ W n K0 R0 M0 outs) := by
  have rx : gm_ir x := ⟨by omega, by omega⟩
  have step : ∀ (i : Int) (L : gm_L) (K : gm_K) (R : gm_R) (M : gm_M), 0 ≤ i → i ≤ x → yy_P L x i → gm_Fx O n K R M → ck_gf σ ([], RF, []) n K R M → gm_ir (M 3 6) → M 3 6 = y + i → ck_fr W n K0 R0 M0 n K R M → (i + 1 ≤ x → ∀ (L : gm_L) (K : gm_K) (R : gm_R) (M : gm_M), yy_P L x (i + 1) → gm_Fx O n K R M → ck_gf σ ([], RF, []) n K R M → gm_ir (M 3 6) → M 3 6 = y + (i + 1) → ck_fr W n K0 R0 M0 n K R M → gm_Wp X LX d 0 0 161 56 L [] n K R M (ck_Q O σ W n K0 R0 M0 outs)) → gm_Wp X LX d 0 0 161 56 L [] n K R M (ck_Q O σ W n K0 R0 M0 outs) := by
    intro i L K R M i0 ix ⟨p1, p2, p3, ⟨s, p4, rs⟩, p5⟩ hF hf rM hM hfr HI
    have ri : gm_ir i := ⟨by omega, by omega⟩
    refine gm_sz (gm_p_load (pc := 56) (i := .iload_n 3) (sr := 0) (j := 3) (by decide +kernel) rfl p5 rfl) ?_
    refine gm_sz (gm_p_load (pc := 57) (i := .iload_n 1) (sr := 0) (j := 1) (by decide +kernel) rfl p3 rfl) ?_
    refine gm_b_ic (cc := .ge) (pc := 58) (off := 16) (by decide +kernel) (by decide) (fun _ => ?_) (fun hp => ?_)
    · exact ck_go_s (σ0 := σ) (cuts := []) (by decide) hE ck_X0 ck_l0 f true [] 0 0 74 (yy_A (1, 50, []) (some (.inl ck_top)) none) [] n ([], RF, []) σ L [] K R M (fun _ _ => rfl) (fun _ h => nomatch h) ⟨hF, yy_mk p1 p2 p3 rx ⟨hx.1, hx.2, fun q hq => nomatch hq⟩ (fun b hb => by cases hb; exact ⟨_, p4, yy_top rs⟩) (fun b hb => nomatch hb), rfl, hf, hfr⟩ g74
    · rw [gm_cm_w ri rx] at hp
      have hp : ¬ x ≤ i := hp
      have s1 : ∀ s, s < 100 → ck_us (ck_us (ck_us σ 302 x) 303 (y + i)) 304 i s = σ s := fun s hs => by rw [yy_u2 (by omega), yy_u2 (by omega), yy_u2 (by omega)]
      have e2 : ck_us (ck_us (ck_us σ 302 x) 303 (y + i)) 304 i 302 = x := by rw [yy_u2 (by decide), yy_u2 (by decide), yy_u1]
      have e3 : ck_us (ck_us (ck_us σ 302 x) 303 (y + i)) 304 i 303 = y + i := by rw [yy_u2 (by decide), yy_u1]
      have e4 : ck_us (ck_us (ck_us σ 302 x) 303 (y + i)) 304 i 304 = i := yy_u1
      generalize ck_us (ck_us (ck_us σ 302 x) 303 (y + i)) 304 i = σ1 at s1 e2 e3 e4
      refine ck_go_s (σ0 := σ) (cuts := [(56, yy_C2 RF)]) (by simp [ck_cu]) hE ck_X0 ck_l0 f true [(56, yy_C2 RF, 0, 0, n)] 0 0 61 (yy_A (1, 50, [(302, 0)]) (some (.inl ck_top)) (some (.inl (0, 49, [(304, 0)])))) [] n (yy_F RF (0, 298, [(303, 0)])) σ1 L [] K R M s1 (fun h hm => ?_) ⟨hF, yy_mk p1 p2 p3 rx (yy_gi hx.1 hx.2 (by decide) (by rw [e2]; omega)) (fun b hb => by cases hb; exact ⟨_, p4, yy_top rs⟩) (fun b hb => by cases hb; exact ⟨_, p5, i, rfl, ri, yy_gi i0 (by omega) (by decide) (by rw [e4]; omega)⟩), rfl, ⟨(fun q hq => nomatch hq), hf.2.1, fun q hq => ?_⟩, hfr⟩ g61
      · rw [List.mem_singleton.mp hm]
        refine ⟨List.mem_singleton.mpr rfl, fun v _ bc bs L1 K1 R1 M1 _ _ hS _ => ?_⟩
        refine gm_Wp_wk (Nat.le_refl _) (Nat.zero_le _) (Nat.zero_le _) ?_
        obtain ⟨hF1, hl1, _, hf1, hfr1⟩ := hS
        have hl1 : ck_gl σ1 (yy_A (1, 50, [(302, 0)]) (some (.inl ck_top)) (some (.inl (1, 50, [(304, 1)])))) L1 := hl1
        have hf1 : ck_gf σ1 (yy_F RF (1, 299, [(303, 1)])) n K1 R1 M1 := hf1
        have hlen : 4 = L1.length := hl1.1
        obtain ⟨u0, l0, g0⟩ := hl1.2 0 (.inr (.inr (.inl 1))) rfl
        cases g0
        obtain ⟨u1, l1, x1, rfl, -, g1⟩ := hl1.2 1 (.inl (1, 50, [(302, 0)])) rfl
        obtain ⟨u2, l2, x2, rfl, r2, -⟩ := hl1.2 2 (.inl ck_top) rfl
        obtain ⟨u3, l3, x3, rfl, -, g3⟩ := hl1.2 3 (.inl (1, 50, [(304, 1)])) rfl
        obtain ⟨r6, g6⟩ := (hf1.2.2 (3, 6, 6, (1, 299, [(303, 1)])) (List.mem_singleton.mpr rfl)).2 6 (Int.le_refl _) (Int.le_refl _)
        have q1 : x1 = x := by
          have := (g1.2.2 (302, 0) (List.mem_singleton.mpr rfl)).1 (by decide)
          have : x1 = σ1 302 + 0 := this
          omega
        have q3 : x3 = i + 1 := by
          have := (g3.2.2 (304, 1) (List.mem_singleton.mpr rfl)).1 (by decide)
          have : x3 = σ1 304 + 1 := this
          omega
        have q6 : M1 3 6 = y + (i + 1) := by
          have := (g6.2.2 (303, 1) (List.mem_singleton.mpr rfl)).1 (by decide)
          have : M1 3 6 = σ1 303 + 1 := this
          omega
        rw [q1] at l1
        rw [q3] at l3
        exact HI (by omega) L1 K1 R1 M1 ⟨hlen.symm, l0, l1, ⟨x2, l2, r2⟩, l3⟩ hF1 ⟨(fun q hq => nomatch hq), hf1.2.1, fun q hq => nomatch hq⟩ r6 q6 hfr1
      · rw [List.mem_singleton.mp hq]
        refine ⟨h3, fun j j1 j2 => ?_⟩
        have j1 : (6 : Int) ≤ j := j1
        have j2 : j ≤ (6 : Int) := j2
        have j3 : j = 6 := by omega
        subst j3
        exact ⟨rM, yy_gi (by show 0 ≤ M 3 6; omega) (by show M 3 6 ≤ 298; omega) (by decide) (by show M 3 6 = σ1 303 + 0; omega)⟩
  intro j
  induction j with
  | zero =>
    intro i L K R M i0 ix ij hP hF hf rM hM hfr
    exact step i L K R M i0 ix hP hF hf rM hM hfr (fun h => absurd h (by omega))
  | succ j ih =>
    intro i L K R M i0 ix ij hP hF hf rM hM hfr
    exact step i L K R M i0 ix hP hF hf rM hM hfr (fun h L1 K1 R1 M1 hP1 hF1 hf1 rM1 hM1 hfr1 => ih (i + 1) L1 K1 R1 M1 (by omega) h (by omega) hP1 hF1 hf1 rM1 hM1 hfr1)
theorem yy_s {RF : List (Nat × Int × Nat)} {RS : List (Nat × List (Nat × Int × Nat))} {S : ck_Sum} {mc ms : Nat} (hE : ck_nmu O ∧ ck_OkE O X LX E) (o1 : O.1 1 = some (4, 0)) (o3 : O.1 3 = some (5, 0)) (o2 : O.2.1 1 ((3 : Nat) : Int) = some 3) (h3 : 3 ≤ S.2.1) (hmc : mc ≤ S.1.2.1) (hms : ms ≤ S.1.2.2)
    (ha : (decide (S.2.2.1.length ≤ gm_ml 161) && ck_go O none [] E 161 S.1.1 S.2.1 S.2.2.2.2.1 S.2.2.2.2.2 [(11, yy_C0 RF)] f false [(11, yy_C0 RF, mc, ms, S.2.1)] S.1.2.1 S.1.2.2 0 (S.2.2.1.map some ++ List.replicate (gm_ml 161 - S.2.2.1.length) none) [] S.2.1 S.2.2.2.1) = true)
    (hb : ck_go O none [] E 161 S.1.1 S.2.1 S.2.2.2.2.1 S.2.2.2.2.2 [] f true [] mc ms 26 (yy_A (1, 50, []) none none) [] S.2.1 (yy_F RF (0, 299, [(10, 0)])) = true)
    (hcu : ck_cu (RS.map fun p => (56, yy_C1 p.2 p.1)) = true)
    (hc : ck_go O none [] E 161 S.1.1 S.2.1 S.2.2.2.2.1 S.2.2.2.2.2 (RS.map fun p => (56, yy_C1 p.2 p.1)) f true (RS.map fun p => (56, yy_C1 p.2 p.1, 0, 0, S.2.1)) mc ms 37 (yy_A (1, 50, [(302, 0)]) none none) [] S.2.1 (yy_F RF (0, 298, [(10, 0), (303, 0)])) = true)
    (hd : (RS.all fun p => ck_go O none [] E 161 S.1.1 S.2.1 S.2.2.2.2.1 S.2.2.2.2.2 [(56, yy_C2 p.2)] f true [(56, yy_C2 p.2, 0, 0, S.2.1)] 0 0 61 (yy_A (1, 50, [(302, 0)]) (some (.inl ck_top)) (some (.inl (0, 49, [(304, 0)])))) [] S.2.1 (yy_F p.2 (0, 298, [(303, 0)])) && ck_go O none [] E 161 S.1.1 S.2.1 S.2.2.2.2.1 S.2.2.2.2.2 [] f true [] 0 0 74 (yy_A (1, 50, []) (some (.inl ck_top)) none) [] S.2.1 ([], p.2, [])) = true) : ck_Ok O X LX 161 S := by
  refine ck_ok_st (cuts := [(11, yy_C0 RF)]) (by simp [ck_cu]) hE ha (fun h hm => ?_)
  rw [List.mem_singleton.mp hm]
  refine ⟨List.mem_singleton.mpr rfl, fun σ K0 R0 M0 v _ bc bs L K R M hb1 hb2 hS _ => ?_⟩
  refine gm_Wp_wk (Nat.le_refl _) hb1 hb2 ?_
  obtain ⟨hF, hl, _, hf, hfr⟩ := hS
  have hl : ck_gl σ (yy_A (1, 50, []) none none) L := hl
  have hf : ck_gf σ (yy_F RF (0, 299, [(10, 0)])) S.2.1 K R M := hf
  show gm_Wp X LX S.1.1 mc ms 161 11 L [] S.2.1 K R M _
  have hlen : 4 = L.length := hl.1
  obtain ⟨u0, l0, g0⟩ := hl.2 0 (.inr (.inr (.inl 1))) rfl
  cases g0
  obtain ⟨u1, l1, x, rfl, rx, x1, x2, -⟩ := hl.2 1 (.inl (1, 50, [])) rfl
  have x1 : 1 ≤ x := x1
  have x2 : x ≤ 50 := x2
  obtain ⟨h6, h7⟩ := (hf.2.2 (3, 6, 6, (0, 299, [(10, 0)])) (List.mem_singleton.mpr rfl)).2 6 (Int.le_refl _) (Int.le_refl _)
  have h71 : (0 : Int) ≤ M 3 6 := h7.1
  have h72 : M 3 6 ≤ (299 : Int) := h7.2.1
  have h74 : M 3 6 = σ 10 + 0 := (h7.2.2 (10, 0) (List.mem_singleton.mpr rfl)).1 (by decide)
  obtain ⟨k1, k2, k3⟩ := hF.1 1 _ o1
  obtain ⟨k4, k5, k6⟩ := hF.1 3 _ o3
  have r3 := (hF.2.1 1 _ _ o2).2
  refine gm_sz (gm_p_load (pc := 11) (i := .iload_n 1) (sr := 0) (j := 1) (by decide +kernel) rfl l1 rfl) ?_
  refine gm_sz (gm_p_const (pc := 12) (i := .sipush 299) (v := gm_vi 299) (by decide +kernel) (by decide +kernel)) ?_
  refine gm_sz (gm_p_load (pc := 15) (i := .aload_n 0) (sr := 2) (j := 0) (by decide +kernel) rfl l0 rfl) ?_
  refine gm_sz (gm_p_get (pc := 16) (ix := 23) (ci := 0) (j := 3) (by decide +kernel) ⟨k1, k2⟩ (by rw [k3]) (by decide +kernel)) ?_
  rw [if_pos (show gm_isr 0 3 = true by decide +kernel), r3]
  refine gm_sz (gm_p_get (pc := 19) (ix := 269) (ci := 1) (j := 6) (by decide +kernel) ⟨k4, k5⟩ (by rw [k6]) (by decide +kernel)) ?_
  rw [if_neg (show ¬ gm_isr 1 6 = true by decide +kernel)]
  refine gm_sz (gm_p_bin (pc := 22) (i := .isub) (f := fun x y => x - y) (by decide +kernel) rfl) ?_
  have h73 : M 3 ((6 : Nat) : Int) = M 3 6 := rfl
  refine gm_b_ic (cc := .le) (pc := 23) (off := 14) (by decide +kernel) (by decide) (fun hp => ?_) (fun _ => ?_)
  · rw [gm_cm_w ⟨by omega, by omega⟩ ⟨by omega, by omega⟩] at hp
    have hp : x ≤ 299 - M 3 6 := hp
    have s1 : ∀ s, s < 100 → ck_us (ck_us σ 302 x) 303 (M 3 6) s = σ s := fun s hs => by rw [yy_u2 (by omega), yy_u2 (by omega)]
    have e2 : ck_us (ck_us σ 302 x) 303 (M 3 6) 302 = x := by rw [yy_u2 (by decide), yy_u1]
    have e3 : ck_us (ck_us σ 302 x) 303 (M 3 6) 303 = M 3 6 := yy_u1
    generalize ck_us (ck_us σ 302 x) 303 (M 3 6) = σ1 at s1 e2 e3
    refine ck_go_s (σ0 := σ) hcu hE ck_X0 ck_l0 f true (RS.map fun p => (56, yy_C1 p.2 p.1, 0, 0, S.2.1)) mc ms 37 (yy_A (1, 50, [(302, 0)]) none none) [] S.2.1 (yy_F RF (0, 298, [(10, 0), (303, 0)])) σ1 L [] K R M s1 (fun h hm => ?_) ⟨hF, yy_mk hlen.symm l0 l1 rx (yy_gi x1 x2 (by decide) (by rw [e2]; omega)) (fun b hb => nomatch hb) (fun b hb => nomatch hb), rfl, ⟨(fun q hq => nomatch hq), hf.2.1, fun q hq => ?_⟩, hfr⟩ hc
    · obtain ⟨p, hp9, rfl⟩ := List.mem_map.mp hm
      refine ⟨List.mem_map.mpr ⟨p, hp9, rfl⟩, fun v _ bc bs L1 K1 R1 M1 _ _ hS _ => ?_⟩
      have hd2 := List.all_eq_true.mp hd p hp9
      simp only [Bool.and_eq_true] at hd2
      refine gm_Wp_wk (Nat.le_refl _) (Nat.zero_le _) (Nat.zero_le _) ?_
      obtain ⟨hF1, hl1, _, hf1, hfr1⟩ := hS
      have hl1 : ck_gl σ1 (yy_A (1, 50, [(302, 0)]) (some (.inl (ck_one 0))) (some (.inl (ck_one 0)))) L1 := hl1
      have hf1 : ck_gf σ1 (yy_F p.2 (0, 298, [(303, 0)])) S.2.1 K1 R1 M1 := hf1
      have hlen1 : 4 = L1.length := hl1.1
      obtain ⟨u0, l0, g0⟩ := hl1.2 0 (.inr (.inr (.inl 1))) rfl
      cases g0
      obtain ⟨u1, l1, y1, rfl, -, g1⟩ := hl1.2 1 (.inl (1, 50, [(302, 0)])) rfl
      obtain ⟨u2, l2, y2, rfl, r2, -⟩ := hl1.2 2 (.inl (ck_one 0)) rfl
      obtain ⟨u3, l3, y3, rfl, -, g31, g32, -⟩ := hl1.2 3 (.inl (ck_one 0)) rfl
      obtain ⟨r6, g6⟩ := (hf1.2.2 (3, 6, 6, (0, 298, [(303, 0)])) (List.mem_singleton.mpr rfl)).2 6 (Int.le_refl _) (Int.le_refl _)
      have q1 : y1 = x := by
        have := (g1.2.2 (302, 0) (List.mem_singleton.mpr rfl)).1 (by decide)
        have : y1 = σ1 302 + 0 := this
        omega
      have q31 : 0 ≤ y3 := g31
      have q32 : y3 ≤ 0 := g32
      have q3 : y3 = 0 := by omega
      have q6 : M1 3 6 = M 3 6 + 0 := by
        have := (g6.2.2 (303, 0) (List.mem_singleton.mpr rfl)).1 (by decide)
        have : M1 3 6 = σ1 303 + 0 := this
        omega
      rw [q1] at l1
      rw [q3] at l3
      exact yy_l hE h3 ⟨x1, x2⟩ h71 (by omega) hd2.1 hd2.2 50 0 L1 K1 R1 M1 (by decide) (by omega) (by omega) ⟨hlen1.symm, l0, l1, ⟨y2, l2, r2⟩, l3⟩ hF1 ⟨(fun q hq => nomatch hq), hf1.2.1, fun q hq => nomatch hq⟩ r6 q6 hfr1
    · rw [List.mem_singleton.mp hq]
      refine ⟨h3, fun j j1 j2 => ?_⟩
      have j1 : (6 : Int) ≤ j := j1
      have j2 : j ≤ (6 : Int) := j2
      have j3 : j = 6 := by omega
      subst j3
      refine ⟨h6, h71, by show M 3 6 ≤ 298; omega, fun p hp1 => ?_⟩
      simp only [List.mem_cons, List.not_mem_nil, or_false] at hp1
      rcases hp1 with rfl | rfl
      · exact ⟨fun _ => by show M 3 6 = σ1 10 + 0; rw [s1 10 (by decide)]; exact h74, fun h => absurd h (by decide)⟩
      · exact ⟨fun _ => by show M 3 6 = σ1 303 + 0; rw [e3]; omega, fun h => absurd h (by decide)⟩
  · exact ck_go_s (σ0 := σ) (cuts := []) (by decide) hE ck_X0 ck_l0 f true [] mc ms 26 (yy_A (1, 50, []) none none) [] S.2.1 (yy_F RF (0, 299, [(10, 0)])) σ L [] K R M (fun _ _ => rfl) (fun _ h => nomatch h) ⟨hF, hl, rfl, hf, hfr⟩ hb
end YY
end
/-! 78r00.sh -/
section
/-! LISTS that rows have in common (laid by wip/rel/dd.py). -/
set_option maxRecDepth 100000 in
def zl0 : List (Nat × Int × Int) := [(16, 0, 7), (17, 3, 3), (18, 0, 55), (19, 3, 3), (20, 0, 23), (21, 3, 3), (22, 0, 23), (23, 3, 3), (24, 0, 167), (25, 3, 3), (26, 0, 35), (27, 3, 3), (28, 0, 71)]
set_option maxRecDepth 100000 in
def zl1 : List (Nat × Int × Int) := [(3, 0, 7), (4, 3, 3), (5, 0, 55), (6, 3, 3), (7, 0, 23), (8, 3, 3), (9, 0, 23), (10, 3, 3), (11, 0, 167), (12, 3, 3), (13, 0, 35), (14, 3, 3), (15, 0, 71)]
set_option maxRecDepth 100000 in
def zl2 : List ck_Oc := [(.inr (some (.inl (ck_one (-1)))), 245, ([], [], [(214, 5, 5, ck_one (-1))])), (.inr (some (.inl (0, 400, []))), 245, ([], [], [(214, 5, 5, (0, 400, []))]))]
set_option maxRecDepth 100000 in
def zl3 : List ck_Oc := [(.inr (some (.inl (ck_one 0))), 245, ([], [], [])), (.inr (some (.inl (ck_one 1))), 245, ([], [], [(214, 3, 3, (5, 400, [(12, 0)])), (214, 4, 4, (0, 395, [])), (214, 6, 6, ck_one 257)]))]
set_option maxRecDepth 100000 in
def zl4 : List ck_Oc := [(.inr (some (.inl (ck_one 0))), 245, ([], [], [])), (.inr (some (.inl (ck_one 1))), 245, ([], [], [(214, 3, 3, (4, 400, [(12, 0)])), (214, 4, 4, (0, 396, [])), (214, 6, 6, ck_one 257)]))]
set_option maxRecDepth 100000 in
def zl5 : List (Nat × Int × Int × ck_I) := [(214, 3, 3, (7, 400, [(12, 0)])), (214, 4, 4, (0, 393, [])), (214, 6, 6, ck_one 257)]
set_option maxRecDepth 100000 in
def zl6 : List ck_Oc := [(.inr (some (.inl (ck_one 0))), 245, ([], [], [])), (.inr (some (.inl (ck_one 1))), 245, ([], [], [(214, 3, 3, (6, 400, [(12, 0)])), (214, 4, 4, (0, 394, [])), (214, 6, 6, ck_one 257)]))]
set_option maxRecDepth 100000 in
def zl7 : List (Nat × Int × Int × ck_I) := [(214, 5, 5, (0, 400, [])), (214, 3, 3, (0, 400, [(12, 0)]))]
set_option maxRecDepth 100000 in
def zl8 : List ck_Oc := [(.inr (some (.inl (ck_one 1))), 245, ([], [], [(214, 3, 3, (0, 400, [(1000012, 0)]))])), (.inr (some (.inl (ck_one 0))), 245, ([], [], [(214, 5, 5, (0, 400, [])), (214, 3, 3, (0, 400, [(1000012, 0)]))]))]
set_option maxRecDepth 100000 in
def zl9 : List (Nat × Int × Int × ck_I) := [(214, 3, 3, (0, 400, [(1000012, 0)])), (25, 3, 3, (1, 6, []))]
set_option maxRecDepth 100000 in
def zl10 : List (Nat × Int × Int × ck_I) := [(214, 5, 5, (0, 400, [])), (214, 3, 3, (0, 400, [(1000012, 0)])), (25, 3, 3, (1, 6, []))]
set_option maxRecDepth 100000 in
def zl11 : List ck_Oc := [(.inr (some (.inl (ck_one (-1)))), 245, ([], [], [(214, 5, 5, (0, 400, [])), (214, 3, 3, (0, 400, [(12, 0)]))])), (.inr (some (.inl (0, 5, []))), 245, ([], [], [(214, 3, 3, (0, 400, [(1000012, 0)]))]))]
set_option maxRecDepth 100000 in
def zl12 : List ck_Oc := [(.inr (some (.inl (ck_one (-1)))), 245, ([], [], [(214, 5, 5, (0, 400, [])), (214, 3, 3, (0, 400, [(12, 0)]))])), (.inr (some (.inl (0, 98, []))), 245, ([], [], [(214, 3, 3, (0, 400, [(1000012, 0)]))]))]
set_option maxRecDepth 100000 in
def zl13 : List ck_Oc := [(.inr (some (.inl (0, 23, []))), 245, ([], [], [(23, 3, 3, (1, 24, []))])), (.inr (some (.inl (ck_one (-1)))), 245, ([], [], [(23, 3, 3, ck_one 24)]))]
set_option maxRecDepth 100000 in
def zl14 : List (Nat × Int × Int) := [(24, 0, 0), (24, 7, 7), (24, 14, 14), (24, 21, 21), (24, 28, 28), (24, 35, 35), (24, 42, 42), (24, 49, 49), (24, 56, 56), (24, 63, 63), (24, 70, 70), (24, 77, 77), (24, 84, 84), (24, 91, 91), (24, 98, 98), (24, 105, 105), (24, 112, 112), (24, 119, 119), (24, 126, 126), (24, 133, 133), (24, 140, 140), (24, 147, 147), (24, 154, 154), (24, 161, 161)]
set_option maxRecDepth 100000 in
def zl15 : List (Nat × Int × Int) := [(24, 1, 1), (24, 8, 8), (24, 15, 15), (24, 22, 22), (24, 29, 29), (24, 36, 36), (24, 43, 43), (24, 50, 50), (24, 57, 57), (24, 64, 64), (24, 71, 71), (24, 78, 78), (24, 85, 85), (24, 92, 92), (24, 99, 99), (24, 106, 106), (24, 113, 113), (24, 120, 120), (24, 127, 127), (24, 134, 134), (24, 141, 141), (24, 148, 148), (24, 155, 155), (24, 162, 162)]
set_option maxRecDepth 100000 in
def zl16 : List (Nat × Int × Int) := [(24, 2, 2), (24, 9, 9), (24, 16, 16), (24, 23, 23), (24, 30, 30), (24, 37, 37), (24, 44, 44), (24, 51, 51), (24, 58, 58), (24, 65, 65), (24, 72, 72), (24, 79, 79), (24, 86, 86), (24, 93, 93), (24, 100, 100), (24, 107, 107), (24, 114, 114), (24, 121, 121), (24, 128, 128), (24, 135, 135), (24, 142, 142), (24, 149, 149), (24, 156, 156), (24, 163, 163)]
set_option maxRecDepth 100000 in
def zl17 : List (Nat × Int × Int) := [(24, 3, 3), (24, 10, 10), (24, 17, 17), (24, 24, 24), (24, 31, 31), (24, 38, 38), (24, 45, 45), (24, 52, 52), (24, 59, 59), (24, 66, 66), (24, 73, 73), (24, 80, 80), (24, 87, 87), (24, 94, 94), (24, 101, 101), (24, 108, 108), (24, 115, 115), (24, 122, 122), (24, 129, 129), (24, 136, 136), (24, 143, 143), (24, 150, 150), (24, 157, 157), (24, 164, 164)]
set_option maxRecDepth 100000 in
def zl18 : List (Nat × Int × Int) := [(24, 4, 4), (24, 11, 11), (24, 18, 18), (24, 25, 25), (24, 32, 32), (24, 39, 39), (24, 46, 46), (24, 53, 53), (24, 60, 60), (24, 67, 67), (24, 74, 74), (24, 81, 81), (24, 88, 88), (24, 95, 95), (24, 102, 102), (24, 109, 109), (24, 116, 116), (24, 123, 123), (24, 130, 130), (24, 137, 137), (24, 144, 144), (24, 151, 151), (24, 158, 158), (24, 165, 165)]
set_option maxRecDepth 100000 in
def zl19 : List (Nat × Int × Int) := [(24, 5, 5), (24, 12, 12), (24, 19, 19), (24, 26, 26), (24, 33, 33), (24, 40, 40), (24, 47, 47), (24, 54, 54), (24, 61, 61), (24, 68, 68), (24, 75, 75), (24, 82, 82), (24, 89, 89), (24, 96, 96), (24, 103, 103), (24, 110, 110), (24, 117, 117), (24, 124, 124), (24, 131, 131), (24, 138, 138), (24, 145, 145), (24, 152, 152), (24, 159, 159), (24, 166, 166)]
set_option maxRecDepth 100000 in
def zl20 : List (Nat × Int × Int) := [(24, 6, 6), (24, 13, 13), (24, 20, 20), (24, 27, 27), (24, 34, 34), (24, 41, 41), (24, 48, 48), (24, 55, 55), (24, 62, 62), (24, 69, 69), (24, 76, 76), (24, 83, 83), (24, 90, 90), (24, 97, 97), (24, 104, 104), (24, 111, 111), (24, 118, 118), (24, 125, 125), (24, 132, 132), (24, 139, 139), (24, 146, 146), (24, 153, 153), (24, 160, 160), (24, 167, 167)]
set_option maxRecDepth 100000 in
def zl21 : List (Nat × Int × Int × ck_I) := [(214, 5, 5, (0, 400, [])), (214, 3, 3, (0, 400, [(1000012, 0)]))]
set_option maxRecDepth 100000 in
def zl22 : List (Nat × Int × Int × ck_I) := [(23, 3, 3, (1, 24, [])), (214, 3, 3, (0, 400, [(1000012, 0)]))]
set_option maxRecDepth 100000 in
def zl23 : List (Nat × Int × Int) := [(22, 0, 0), (22, 3, 3), (22, 6, 6), (22, 9, 9), (22, 12, 12), (22, 15, 15), (22, 18, 18), (22, 21, 21)]
set_option maxRecDepth 100000 in
def zl24 : List (Nat × Int × Int) := [(22, 1, 1), (22, 4, 4), (22, 7, 7), (22, 10, 10), (22, 13, 13), (22, 16, 16), (22, 19, 19), (22, 22, 22)]
set_option maxRecDepth 100000 in
def zl25 : List (Nat × Int × Int) := [(22, 2, 2), (22, 5, 5), (22, 8, 8), (22, 11, 11), (22, 14, 14), (22, 17, 17), (22, 20, 20), (22, 23, 23)]
set_option maxRecDepth 100000 in
def zl26 : List (Nat × Int × Int × ck_I) := [(21, 3, 3, (1, 8, [])), (214, 3, 3, (0, 400, [(1000012, 0)]))]
set_option maxRecDepth 100000 in
def zl27 : List (Nat × Int × Int) := [(20, 0, 0), (20, 3, 3), (20, 6, 6), (20, 9, 9), (20, 12, 12), (20, 15, 15), (20, 18, 18), (20, 21, 21)]
set_option maxRecDepth 100000 in
def zl28 : List (Nat × Int × Int) := [(20, 1, 1), (20, 4, 4), (20, 7, 7), (20, 10, 10), (20, 13, 13), (20, 16, 16), (20, 19, 19), (20, 22, 22)]
set_option maxRecDepth 100000 in
def zl29 : List (Nat × Int × Int) := [(20, 2, 2), (20, 5, 5), (20, 8, 8), (20, 11, 11), (20, 14, 14), (20, 17, 17), (20, 20, 20), (20, 23, 23)]
set_option maxRecDepth 100000 in
def zl30 : List (Nat × Int × Int × ck_I) := [(19, 3, 3, (1, 8, [])), (214, 3, 3, (0, 400, [(1000012, 0)]))]
set_option maxRecDepth 100000 in
def zl31 : List ck_Oc := [(.inr (some (.inl (ck_one 0))), 245, ([], [], [(214, 5, 5, (0, 400, [])), (214, 3, 3, (0, 400, [(1000012, 0)]))])), (.inr (some (.inl (ck_one 1))), 245, ([], [], [(214, 3, 3, (0, 400, [(1000012, 0)]))]))]
set_option maxRecDepth 100000 in
def zl32 : List ck_Oc := [(.inr (some (.inl (ck_one 0))), 245, ([], [], [(214, 5, 5, (0, 400, [])), (214, 3, 3, (0, 400, [(1000012, 0)]))])), (.inr (some (.inl (ck_one 1))), 245, ([], [], [(214, 3, 3, (4, 400, [(1000012, 0)]))]))]
set_option maxRecDepth 100000 in
def zl33 : List (Nat × Int × Int) := [(18, 0, 0), (18, 7, 7), (18, 14, 14), (18, 21, 21), (18, 28, 28), (18, 35, 35), (18, 42, 42), (18, 49, 49)]
set_option maxRecDepth 100000 in
def zl34 : List (Nat × Int × Int) := [(18, 1, 6), (18, 8, 13), (18, 15, 20), (18, 22, 27), (18, 29, 34), (18, 36, 41), (18, 43, 48), (18, 50, 55)]
set_option maxRecDepth 100000 in
def zl35 : List (Nat × Int × Int) := [(18, 1, 6), (18, 8, 13), (18, 15, 20), (18, 22, 27), (18, 29, 34), (18, 36, 41), (18, 43, 48), (18, 50, 55), (214, 3, 7)]
set_option maxRecDepth 100000 in
def zl36 : List (Nat × Int × Int × ck_I) := [(214, 3, 3, (0, 400, [(1000012, 0)])), (17, 3, 3, (1, 8, []))]
set_option maxRecDepth 100000 in
def zl37 : List (Nat × Int × Int × ck_I) := [(16, 2, 2, ck_one 10), (214, 3, 3, (0, 400, [(1000012, 0)]))]
set_option maxRecDepth 100000 in
def zl38 : List (Nat × Int × Int × ck_I) := [(16, 4, 4, (1, 6, [])), (214, 3, 3, (0, 400, [(1000012, 0)]))]
set_option maxRecDepth 100000 in
def zl39 : List (Nat × Int × Int) := [(16, 0, 5), (17, 3, 3), (18, 0, 55), (19, 3, 3), (20, 0, 23), (21, 3, 3), (22, 0, 23), (23, 3, 3), (24, 0, 167), (25, 3, 3), (26, 0, 35), (214, 3, 7)]
set_option maxRecDepth 100000 in
def zl40 : List (Nat × Int × Int) := [(16, 0, 5), (17, 3, 3), (18, 0, 55), (19, 3, 3), (20, 0, 23), (21, 3, 3), (22, 0, 23), (23, 3, 3), (24, 0, 167), (25, 3, 3), (26, 0, 35), (214, 2, 7)]
set_option maxRecDepth 100000 in
def zl41 : List (Nat × Int × Int) := [(200, 6, 6), (201, 0, 299), (202, 0, 593), (203, 0, 299)]
set_option maxRecDepth 100000 in
def zl42 : List (Nat × Int × Int) := [(1, 15, 15), (42, 2, 2), (200, 6, 6), (201, 0, 299), (202, 0, 593), (203, 0, 299)]
set_option maxRecDepth 100000 in
def zl43 : List (Nat × Int × Int × ck_I) := [(1, 15, 15, ck_one 0), (42, 2, 2, ck_one 0), (200, 6, 6, ck_one 1)]
set_option maxRecDepth 100000 in
def zl44 : List (Nat × Int × Int × ck_I) := [(214, 3, 3, (0, 400, [(12, 0)])), (1, 1, 1, (0, 400, [(6, 0)])), (3, 6, 6, (0, 299, [(10, 0)]))]
set_option maxRecDepth 100000 in
def zl45 : List (Nat × Int × Int) := [(1, 1, 2), (1, 15, 15), (3, 0, 7), (4, 3, 3), (5, 0, 55), (6, 3, 3), (7, 0, 23), (8, 3, 3), (9, 0, 23), (10, 3, 3), (11, 0, 167), (12, 3, 3), (13, 0, 35), (14, 3, 3), (15, 0, 71), (16, 0, 7), (17, 3, 3), (18, 0, 55), (19, 3, 3), (20, 0, 23), (21, 3, 3), (22, 0, 23), (23, 3, 3), (24, 0, 167), (25, 3, 3), (26, 0, 35), (27, 3, 3), (28, 0, 71), (42, 2, 2), (200, 6, 6), (201, 0, 299), (202, 0, 593), (203, 0, 299), (214, 2, 7)]
set_option maxRecDepth 100000 in
def zl46 : List (Nat × Int × Int × ck_I) := [(3, 7, 7, ((-2147483648), (-1), [])), (1, 15, 15, ck_one 0), (42, 2, 2, ck_one 0), (200, 6, 6, ck_one 1), (1, 1, 1, ck_one 0), (1, 2, 2, ck_one (-1)), (214, 5, 5, ck_one (-1)), (16, 6, 6, (0, 299, [(10, 0)]))]
set_option maxRecDepth 100000 in
def zl47 : List (Nat × Int × Int × ck_I) := [(3, 7, 7, (0, 2147483647, [])), (1, 15, 15, ck_one 0), (42, 2, 2, ck_one 0), (200, 6, 6, ck_one 1), (1, 1, 1, ck_one 0), (1, 2, 2, ck_one (-1)), (214, 5, 5, ck_one (-1)), (16, 6, 6, (0, 299, [(10, 0)]))]
set_option maxRecDepth 100000 in
def zl48 : List (Nat × Int × Int × ck_I) := [(3, 7, 7, (12, 2147483647, [])), (1, 1, 1, ck_one 0), (1, 2, 2, ck_one (-1)), (214, 5, 5, ck_one (-1)), (16, 6, 6, (0, 299, [(10, 0)])), (3, 6, 6, (0, 299, [(10, 0)]))]
set_option maxRecDepth 100000 in
def zl49 : List (Nat × Int × Int × ck_I) := [(1, 1, 1, ck_one 0), (1, 2, 2, (0, 400, [])), (214, 5, 5, (0, 400, [])), (16, 6, 6, (0, 299, [(10, 0)])), (3, 6, 6, (0, 299, [(10, 0)]))]
set_option maxRecDepth 100000 in
def zl50 : List ck_Oc := [(.inr (some (.inl (ck_one 0))), 245, ([], [], [])), (.inr (some (.inl (ck_one 1))), 245, ([], [], [(226, 10, 10, (1, 400, [])), (226, 9, 9, (0, 399, [(1, 0)]))]))]
set_option maxRecDepth 100000 in
def zl51 : List (Nat × Int × Int × ck_I) := [(226, 9, 9, (0, 400, [(1000001, 0)])), (226, 11, 11, (0, 400, [(1000001, 0)]))]
set_option maxRecDepth 100000 in
def zl52 : List ck_Oc := [(.inr (some (.inl (ck_one 0))), 245, ([], [], [])), (.inr (some (.inl (ck_one 1))), 245, ([], [], [(226, 9, 9, (5, 400, [(1, 0)])), (226, 11, 11, (0, 395, []))]))]
set_option maxRecDepth 100000 in
def zl53 : List ck_Oc := [(.inr (some (.inl (ck_one 0))), 245, ([], [], [])), (.inr (some (.inl (ck_one 1))), 245, ([], [], [(226, 9, 9, (4, 400, [(1, 0)])), (226, 11, 11, (0, 396, []))]))]
set_option maxRecDepth 100000 in
def zl54 : List ck_Oc := [(.inr (some (.inl (ck_one 0))), 245, ([], [], [])), (.inr (some (.inl (ck_one 1))), 245, ([], [], [(226, 9, 9, (6, 400, [(1, 0)])), (226, 11, 11, (0, 394, []))]))]
set_option maxRecDepth 100000 in
def zl55 : List ck_Oc := [(.inr (some (.inl (ck_one (-1)))), 245, ([], [], [(226, 9, 9, (0, 400, [(1000001, 0)])), (226, 11, 11, (0, 400, [(1000001, 0)]))])), (.inr (some (.inl (0, 9999, []))), 245, ([], [], [(226, 9, 9, (0, 400, [(1000001, 0)])), (226, 11, 11, (0, 400, [(1000001, 0)]))]))]
set_option maxRecDepth 100000 in
def zl56 : List ck_Oc := [(.inr (some (.inl (ck_one (-1)))), 245, ([], [], [(226, 9, 9, (0, 400, [(1000001, 0)])), (226, 11, 11, (0, 400, [(1000001, 0)]))])), (.inr (some (.inl (0, 6, []))), 245, ([], [], [(226, 9, 9, (0, 400, [(1000001, 0)])), (226, 11, 11, (0, 400, [(1000001, 0)]))]))]
set_option maxRecDepth 100000 in
def zl57 : List ck_Oc := [(.inr (some (.inl (ck_one (-1)))), 245, ([], [], [(226, 9, 9, (0, 400, [(1000001, 0)])), (226, 11, 11, (0, 400, [(1000001, 0)]))])), (.inr (some (.inl (0, 20, []))), 245, ([], [], [(226, 9, 9, (0, 400, [(1000001, 0)])), (226, 11, 11, (0, 400, [(1000001, 0)]))]))]
set_option maxRecDepth 100000 in
def zl58 : List ck_Oc := [(.inr (some (.inl (ck_one 1))), 245, ([], [], [(226, 9, 9, (0, 400, [(1000001, 0)]))])), (.inr (some (.inl (ck_one 0))), 245, ([], [], [(226, 9, 9, (0, 400, [(1000001, 0)])), (226, 11, 11, (0, 400, [(1000001, 0)]))]))]
set_option maxRecDepth 100000 in
def zl59 : List ck_Oc := [(.inr (some (.inl (ck_one (-1)))), 245, ([], [], [(226, 9, 9, (0, 400, [(1000001, 0)])), (226, 11, 11, (0, 400, [(1000001, 0)]))])), (.inr (some (.inl (0, 5, []))), 245, ([], [], [(226, 9, 9, (0, 400, [(1000001, 0)])), (226, 11, 11, (0, 400, [(1000001, 0)]))]))]
set_option maxRecDepth 100000 in
def zl60 : List ck_Oc := [(.inr (some (.inl (ck_one (-1)))), 245, ([], [], [(226, 9, 9, (0, 400, [(1000001, 0)])), (226, 11, 11, (0, 400, [(1000001, 0)]))])), (.inr (some (.inl (0, 98, []))), 245, ([], [], [(226, 9, 9, (0, 400, [(1000001, 0)])), (226, 11, 11, (0, 400, [(1000001, 0)]))]))]
set_option maxRecDepth 100000 in
def zl61 : List ck_Oc := [(.inr (some (.inl (ck_one (-1)))), 245, ([], [], [(226, 9, 9, (0, 400, [(1000001, 0)])), (226, 11, 11, (0, 400, [(1000001, 0)]))])), (.inr (some (.inl (0, 299, []))), 245, ([], [], [(226, 9, 9, (0, 400, [(1000001, 0)])), (226, 11, 11, (0, 400, [(1000001, 0)]))]))]
set_option maxRecDepth 100000 in
def zl62 : List ck_Oc := [(.inr (some (.inl (ck_one (-1)))), 245, ([], [], [(226, 9, 9, (0, 400, [(1000001, 0)])), (226, 11, 11, (0, 400, [(1000001, 0)]))])), (.inr (some (.inl (1, 20, []))), 245, ([], [], [(226, 9, 9, (0, 400, [(1000001, 0)])), (226, 11, 11, (0, 400, [(1000001, 0)]))]))]
set_option maxRecDepth 100000 in
def zl63 : List ck_Oc := [(.inr (some (.inl (ck_one (-1)))), 245, ([], [], [(226, 9, 9, (0, 400, [(1000001, 0)])), (226, 11, 11, (0, 400, [(1000001, 0)]))])), (.inr (some (.inl (0, 9, []))), 245, ([], [], [(226, 9, 9, (0, 400, [(1000001, 0)])), (226, 11, 11, (0, 400, [(1000001, 0)]))]))]
set_option maxRecDepth 100000 in
def zl64 : List (Nat × Int × Int × ck_I) := [(226, 9, 9, (4, 400, [(1000001, 0)])), (226, 11, 11, (4, 400, [(1000001, 0)]))]
set_option maxRecDepth 100000 in
def zl65 : List ck_Oc := [(.inr (some (.inl (ck_one (-1)))), 245, ([], [], [(226, 9, 9, (0, 400, [(1000001, 0)])), (226, 11, 11, (0, 400, [(1000001, 0)]))])), (.inr (some (.inl (ck_one 0))), 245, ([], [], [(226, 9, 9, (0, 400, [(1000001, 0)])), (226, 11, 11, (0, 400, [(1000001, 0)]))]))]
set_option maxRecDepth 100000 in
def zl66 : List ck_Oc := [(.inr (some (.inl (ck_one (-1)))), 245, ([], [], [(226, 9, 9, (0, 400, [(1000001, 0)])), (226, 11, 11, (0, 400, [(1000001, 0)]))])), (.inr (some (.inl (1, 98, []))), 245, ([], [], [(226, 9, 9, (0, 400, [(1000001, 0)])), (226, 11, 11, (0, 400, [(1000001, 0)]))]))]
set_option maxRecDepth 100000 in
def zl67 : List ck_Oc := [(.inr (some (.inl (ck_one (-1)))), 245, ([], [], [(226, 9, 9, (0, 400, [(1000001, 0)])), (226, 11, 11, (0, 400, [(1000001, 0)]))])), (.inr (some (.inl (10, 99, []))), 245, ([], [], [(226, 9, 9, (0, 400, [(1000001, 0)])), (226, 11, 11, (0, 400, [(1000001, 0)]))]))]
set_option maxRecDepth 100000 in
def zl68 : List (Nat × Int × Int × ck_I) := [(227, 2, 2, (0, 8, [(20, 0)])), (227, 3, 3, (0, 8, [(21, 0)])), (227, 4, 4, (0, 24, [(22, 0)])), (227, 5, 5, (0, 8, [(23, 0)])), (227, 6, 6, (0, 6, [(24, 0)])), (226, 9, 9, (0, 400, [(1, 0)]))]
set_option maxRecDepth 100000 in
def zl69 : List ck_Oc := [(.inr (some (.inl (ck_one (-1)))), 245, ([], [], [(226, 9, 9, (0, 400, [(1000001, 0)])), (226, 11, 11, (0, 400, [(1000001, 0)]))])), (.inr (some (.inl (1, 6, []))), 245, ([], [], [(226, 9, 9, (0, 400, [(1000001, 0)])), (226, 11, 11, (0, 400, [(1000001, 0)]))]))]
set_option maxRecDepth 100000 in
def zl70 : List (Nat × Int × Int × ck_I) := [(227, 2, 2, (0, 8, [(20, 0)])), (227, 3, 3, (0, 8, [(21, 0)])), (227, 4, 4, (0, 24, [(22, 0)])), (227, 5, 5, (0, 8, [(23, 0)])), (227, 6, 6, (0, 6, [(24, 0)])), (226, 9, 9, (0, 400, [(1, 0)])), (227, 9, 9, (0, 299, [(11, 0)]))]
set_option maxRecDepth 100000 in
def zl71 : List (Nat × Int × Int) := [(226, 9, 9), (226, 11, 11), (227, 0, 6), (227, 10, 13), (227, 15, 322)]
set_option maxRecDepth 100000 in
def zl72 : List ck_Oc := [(.inr (some (.inl (ck_one 0))), 245, ([], [], [(227, 2, 2, (0, 8, [(20, 0)])), (227, 3, 3, (0, 8, [(21, 0)])), (227, 4, 4, (0, 24, [(22, 0)])), (227, 5, 5, (0, 8, [(23, 0)])), (227, 6, 6, (0, 6, [(24, 0)])), (226, 9, 9, (0, 400, [(1000001, 0)]))])), (.inr (some (.inl (ck_one 1))), 245, ([], [], [(226, 9, 9, (4, 400, [(1000001, 0)])), (227, 4, 4, (0, 24, [(1000022, 0)]))]))]
set_option maxRecDepth 100000 in
def zl73 : List (Nat × Int × Int × ck_I) := [(227, 4, 4, (0, 24, [(1000022, 0)])), (226, 15, 15, ck_one 0), (226, 8, 8, ck_one 0), (226, 0, 0, ck_one 0)]
set_option maxRecDepth 100000 in
def zl74 : List (Nat × Int × Int × ck_I) := [(206, 8, 8, ck_one 0), (206, 6, 6, ck_one 0), (206, 4, 4, ck_one (-1)), (206, 3, 3, ck_one 0), (206, 7, 7, ((-1), 299, [])), (206, 5, 5, ((-1), 299, [])), (206, 2, 2, ((-1), 299, []))]
set_option maxRecDepth 100000 in
def zl75 : List (Nat × Int × Int × ck_I) := [(206, 8, 8, ck_one 0), (206, 6, 6, ck_one 0), (206, 4, 4, ck_one (-1)), (206, 3, 3, ck_one 1), (206, 7, 7, ((-1), 299, [])), (206, 5, 5, ((-1), 299, [])), (206, 2, 2, ((-1), 299, []))]
set_option maxRecDepth 100000 in
def zl76 : List (Nat × Int × Int × ck_I) := [(206, 8, 8, ck_one 0), (206, 6, 6, ck_one 0), (206, 4, 4, ck_one (-1)), (206, 7, 7, ((-1), 299, [])), (206, 5, 5, ((-1), 299, [])), (206, 2, 2, ((-1), 299, []))]
set_option maxRecDepth 100000 in
def zl77 : List (Nat × Int × Int) := [(221, 0, 0), (221, 2, 2), (221, 4, 4), (221, 6, 6), (221, 8, 8), (221, 10, 10), (221, 12, 12), (221, 14, 14), (221, 16, 16), (221, 18, 18), (221, 20, 20), (221, 22, 22), (221, 24, 24), (221, 26, 26), (221, 28, 28), (221, 30, 30), (221, 32, 32), (221, 34, 34), (221, 36, 36), (221, 38, 38), (221, 40, 40), (221, 42, 42), (221, 44, 44), (221, 46, 46)]
set_option maxRecDepth 100000 in
def zl78 : List (Nat × Int × Int) := [(221, 1, 1), (221, 3, 3), (221, 5, 5), (221, 7, 7), (221, 9, 9), (221, 11, 11), (221, 13, 13), (221, 15, 15), (221, 17, 17), (221, 19, 19), (221, 21, 21), (221, 23, 23), (221, 25, 25), (221, 27, 27), (221, 29, 29), (221, 31, 31), (221, 33, 33), (221, 35, 35), (221, 37, 37), (221, 39, 39), (221, 41, 41), (221, 43, 43), (221, 45, 45), (221, 47, 47)]
set_option maxRecDepth 100000 in
def zl79 : List (Nat × Int × Int) := [(1, 15, 15), (206, 2, 8), (220, 3, 3), (221, 0, 47)]
set_option maxRecDepth 100000 in
def zl80 : List (Nat × Int × Int × ck_I) := [(227, 2, 2, (0, 8, [(20, 0)])), (227, 5, 5, (0, 8, [(23, 0)]))]
set_option maxRecDepth 100000 in
def zl81 : List (Nat × Int × Int) := [(226, 17, 23), (226, 26, 26), (226, 29, 30), (233, 0, 399), (235, 0, 29699), (236, 0, 299), (237, 0, 299)]
set_option maxRecDepth 100000 in
def zl82 : List ck_Oc := [(.inr (some (.inl (ck_one (-1)))), 245, ([], [], [(226, 29, 29, ck_one (-1))])), (.inr (some (.inl (0, 299, []))), 245, ([], [], [(226, 29, 29, (0, 299, []))]))]
set_option maxRecDepth 100000 in
def zl83 : List (Nat × Int × Int × ck_I) := [(227, 2, 2, (0, 8, [(20, 0)])), (227, 5, 5, (0, 8, [(23, 0)])), (227, 9, 9, (0, 299, [(11, 0)]))]
set_option maxRecDepth 100000 in
def zl86 : List (Nat × Int × Int × ck_I) := [(206, 4, 4, ck_one (-1)), (206, 2, 2, ((-1), 299, []))]
set_option maxRecDepth 100000 in
def zl87 : List (Nat × Int × Int × ck_I) := [(206, 6, 6, ck_one 0), (206, 5, 5, ((-2147483648), 98, [])), (206, 4, 4, ck_one (-1)), (206, 2, 2, ((-1), 299, []))]
set_option maxRecDepth 100000 in
def zl90 : List (Nat × Int × Int) := [(57, 0, 7), (58, 3, 3), (59, 0, 55), (60, 3, 3), (61, 0, 23), (62, 3, 3), (63, 0, 23), (64, 3, 3), (65, 0, 167), (66, 3, 3), (67, 0, 35), (68, 3, 3), (69, 0, 71)]
set_option maxRecDepth 100000 in
def zl91 : List (Nat × Int × Int) := [(70, 0, 7), (71, 3, 3), (72, 0, 55), (73, 3, 3), (74, 0, 23), (75, 3, 3), (76, 0, 23), (77, 3, 3), (78, 0, 167), (79, 3, 3), (80, 0, 35), (81, 3, 3), (82, 0, 71)]
set_option maxRecDepth 100000 in
def zl92 : List (Nat × Int × Int) := [(83, 0, 7), (84, 3, 3), (85, 0, 55), (86, 3, 3), (87, 0, 23), (88, 3, 3), (89, 0, 23), (90, 3, 3), (91, 0, 167), (92, 3, 3), (93, 0, 35), (94, 3, 3), (95, 0, 71)]
set_option maxRecDepth 100000 in
def zl93 : List (Nat × Int × Int) := [(96, 0, 7), (97, 3, 3), (98, 0, 55), (99, 3, 3), (100, 0, 23), (101, 3, 3), (102, 0, 23), (103, 3, 3), (104, 0, 167), (105, 3, 3), (106, 0, 35), (107, 3, 3), (108, 0, 71)]
set_option maxRecDepth 100000 in
def zl94 : List (Nat × Int × Int) := [(109, 0, 7), (110, 3, 3), (111, 0, 55), (112, 3, 3), (113, 0, 23), (114, 3, 3), (115, 0, 23), (116, 3, 3), (117, 0, 167), (118, 3, 3), (119, 0, 35), (120, 3, 3), (121, 0, 71)]
set_option maxRecDepth 100000 in
def zl95 : List (Nat × Int × Int) := [(122, 0, 7), (123, 3, 3), (124, 0, 55), (125, 3, 3), (126, 0, 23), (127, 3, 3), (128, 0, 23), (129, 3, 3), (130, 0, 167), (131, 3, 3), (132, 0, 35), (133, 3, 3), (134, 0, 71)]
set_option maxRecDepth 100000 in
def zl96 : List (Nat × Int × Int) := [(135, 0, 7), (136, 3, 3), (137, 0, 55), (138, 3, 3), (139, 0, 23), (140, 3, 3), (141, 0, 23), (142, 3, 3), (143, 0, 167), (144, 3, 3), (145, 0, 35), (146, 3, 3), (147, 0, 71)]
set_option maxRecDepth 100000 in
def zl97 : List (Nat × Int × Int) := [(148, 0, 7), (149, 3, 3), (150, 0, 55), (151, 3, 3), (152, 0, 23), (153, 3, 3), (154, 0, 23), (155, 3, 3), (156, 0, 167), (157, 3, 3), (158, 0, 35), (159, 3, 3), (160, 0, 71)]
set_option maxRecDepth 100000 in
def zl98 : List (Nat × Int × Int) := [(161, 0, 7), (162, 3, 3), (163, 0, 55), (164, 3, 3), (165, 0, 23), (166, 3, 3), (167, 0, 23), (168, 3, 3), (169, 0, 167), (170, 3, 3), (171, 0, 35), (172, 3, 3), (173, 0, 71)]
set_option maxRecDepth 100000 in
def zl99 : List (Nat × Int × Int) := [(174, 0, 7), (175, 3, 3), (176, 0, 55), (177, 3, 3), (178, 0, 23), (179, 3, 3), (180, 0, 23), (181, 3, 3), (182, 0, 167), (183, 3, 3), (184, 0, 35), (185, 3, 3), (186, 0, 71)]
set_option maxRecDepth 100000 in
def zl100 : List (Nat × Int × Int) := [(187, 0, 7), (188, 3, 3), (189, 0, 55), (190, 3, 3), (191, 0, 23), (192, 3, 3), (193, 0, 23), (194, 3, 3), (195, 0, 167), (196, 3, 3), (197, 0, 35), (198, 3, 3), (199, 0, 71)]
set_option maxRecDepth 100000 in
def zl101 : List (Nat × Int × Int) := [(44, 0, 7), (45, 3, 3), (46, 0, 55), (47, 3, 3), (48, 0, 23), (49, 3, 3), (50, 0, 23), (51, 3, 3), (52, 0, 167), (53, 3, 3), (54, 0, 35), (55, 3, 3), (56, 0, 71)]
set_option maxRecDepth 100000 in
def zl102 : List (Nat × Int × Nat) := [(3, 8, 0), (44, 8, 100044), (57, 8, 100057), (70, 8, 100070), (83, 8, 100083), (96, 8, 100096), (109, 8, 100109), (122, 8, 100122), (135, 8, 100135), (148, 8, 100148), (161, 8, 100161), (174, 8, 100174), (187, 8, 100187)]
set_option maxRecDepth 100000 in
def zl103 : List (Nat × Int × Int) := [(42, 1, 2), (44, 0, 7), (45, 3, 3), (46, 0, 55), (47, 3, 3), (48, 0, 23), (49, 3, 3), (50, 0, 23), (51, 3, 3), (52, 0, 167), (53, 3, 3), (54, 0, 35), (55, 3, 3), (56, 0, 71), (57, 0, 7), (58, 3, 3), (59, 0, 55), (60, 3, 3), (61, 0, 23), (62, 3, 3), (63, 0, 23), (64, 3, 3), (65, 0, 167), (66, 3, 3), (67, 0, 35), (68, 3, 3), (69, 0, 71), (70, 0, 7), (71, 3, 3), (72, 0, 55), (73, 3, 3), (74, 0, 23), (75, 3, 3), (76, 0, 23), (77, 3, 3), (78, 0, 167), (79, 3, 3), (80, 0, 35), (81, 3, 3), (82, 0, 71), (83, 0, 7), (84, 3, 3), (85, 0, 55), (86, 3, 3), (87, 0, 23), (88, 3, 3), (89, 0, 23), (90, 3, 3), (91, 0, 167), (92, 3, 3), (93, 0, 35), (94, 3, 3), (95, 0, 71), (96, 0, 7), (97, 3, 3), (98, 0, 55), (99, 3, 3), (100, 0, 23), (101, 3, 3), (102, 0, 23), (103, 3, 3), (104, 0, 167), (105, 3, 3), (106, 0, 35), (107, 3, 3), (108, 0, 71), (109, 0, 7), (110, 3, 3), (111, 0, 55), (112, 3, 3), (113, 0, 23), (114, 3, 3), (115, 0, 23), (116, 3, 3), (117, 0, 167), (118, 3, 3), (119, 0, 35), (120, 3, 3), (121, 0, 71), (122, 0, 7), (123, 3, 3), (124, 0, 55), (125, 3, 3), (126, 0, 23), (127, 3, 3), (128, 0, 23), (129, 3, 3), (130, 0, 167), (131, 3, 3), (132, 0, 35), (133, 3, 3), (134, 0, 71), (135, 0, 7), (136, 3, 3), (137, 0, 55), (138, 3, 3), (139, 0, 23), (140, 3, 3), (141, 0, 23), (142, 3, 3), (143, 0, 167), (144, 3, 3), (145, 0, 35), (146, 3, 3), (147, 0, 71), (148, 0, 7), (149, 3, 3), (150, 0, 55), (151, 3, 3), (152, 0, 23), (153, 3, 3), (154, 0, 23), (155, 3, 3), (156, 0, 167), (157, 3, 3), (158, 0, 35), (159, 3, 3), (160, 0, 71), (161, 0, 7), (162, 3, 3), (163, 0, 55), (164, 3, 3), (165, 0, 23), (166, 3, 3), (167, 0, 23), (168, 3, 3), (169, 0, 167), (170, 3, 3), (171, 0, 35), (172, 3, 3), (173, 0, 71), (174, 0, 7), (175, 3, 3), (176, 0, 55), (177, 3, 3), (178, 0, 23), (179, 3, 3), (180, 0, 23), (181, 3, 3), (182, 0, 167), (183, 3, 3), (184, 0, 35), (185, 3, 3), (186, 0, 71), (187, 0, 7), (188, 3, 3), (189, 0, 55), (190, 3, 3), (191, 0, 23), (192, 3, 3), (193, 0, 23), (194, 3, 3), (195, 0, 167), (196, 3, 3), (197, 0, 35), (198, 3, 3), (199, 0, 71)]
set_option maxRecDepth 100000 in
def zl104 : List (Nat × Int) := [(44, 8), (57, 8), (70, 8), (83, 8), (96, 8), (109, 8), (122, 8), (135, 8), (148, 8), (161, 8), (174, 8), (187, 8)]
set_option maxRecDepth 100000 in
def zl105 : List (Nat × Int × Nat) := [(44, 8, 100044), (57, 8, 100057), (70, 8, 100070), (83, 8, 100083), (96, 8, 100096), (109, 8, 100109), (122, 8, 100122), (135, 8, 100135), (148, 8, 100148), (161, 8, 100161), (174, 8, 100174), (187, 8, 100187)]
set_option maxRecDepth 100000 in
def zl106 : List (Nat × Int × Int × ck_I) := [(42, 2, 2, (1, 12, [])), (42, 1, 1, (0, 11, []))]
set_option maxRecDepth 100000 in
def zl107 : List (Nat × Int × Nat) := [(44, 8, 100044), (57, 8, 0), (70, 8, 100070), (83, 8, 100083), (96, 8, 100096), (109, 8, 100109), (122, 8, 100122), (135, 8, 100135), (148, 8, 100148), (161, 8, 100161), (174, 8, 100174), (187, 8, 100187)]
set_option maxRecDepth 100000 in
def zl108 : List (Nat × Int × Int × ck_I) := [(42, 2, 2, (1, 12, [])), (42, 1, 1, (0, 11, [])), (57, 6, 6, (0, 299, [(10, 0)]))]
set_option maxRecDepth 100000 in
def zl109 : List (Nat × Int × Nat) := [(44, 8, 100044), (57, 8, 100057), (70, 8, 0), (83, 8, 100083), (96, 8, 100096), (109, 8, 100109), (122, 8, 100122), (135, 8, 100135), (148, 8, 100148), (161, 8, 100161), (174, 8, 100174), (187, 8, 100187)]
set_option maxRecDepth 100000 in
def zl110 : List (Nat × Int × Int × ck_I) := [(42, 2, 2, (1, 12, [])), (42, 1, 1, (0, 11, [])), (70, 6, 6, (0, 299, [(10, 0)]))]
set_option maxRecDepth 100000 in
def zl111 : List (Nat × Int × Nat) := [(44, 8, 100044), (57, 8, 100057), (70, 8, 100070), (83, 8, 0), (96, 8, 100096), (109, 8, 100109), (122, 8, 100122), (135, 8, 100135), (148, 8, 100148), (161, 8, 100161), (174, 8, 100174), (187, 8, 100187)]
set_option maxRecDepth 100000 in
def zl112 : List (Nat × Int × Int × ck_I) := [(42, 2, 2, (1, 12, [])), (42, 1, 1, (0, 11, [])), (83, 6, 6, (0, 299, [(10, 0)]))]
set_option maxRecDepth 100000 in
def zl113 : List (Nat × Int × Nat) := [(44, 8, 100044), (57, 8, 100057), (70, 8, 100070), (83, 8, 100083), (96, 8, 0), (109, 8, 100109), (122, 8, 100122), (135, 8, 100135), (148, 8, 100148), (161, 8, 100161), (174, 8, 100174), (187, 8, 100187)]
set_option maxRecDepth 100000 in
def zl114 : List (Nat × Int × Int × ck_I) := [(42, 2, 2, (1, 12, [])), (42, 1, 1, (0, 11, [])), (96, 6, 6, (0, 299, [(10, 0)]))]
set_option maxRecDepth 100000 in
def zl115 : List (Nat × Int × Nat) := [(44, 8, 100044), (57, 8, 100057), (70, 8, 100070), (83, 8, 100083), (96, 8, 100096), (109, 8, 0), (122, 8, 100122), (135, 8, 100135), (148, 8, 100148), (161, 8, 100161), (174, 8, 100174), (187, 8, 100187)]
set_option maxRecDepth 100000 in
def zl116 : List (Nat × Int × Int × ck_I) := [(42, 2, 2, (1, 12, [])), (42, 1, 1, (0, 11, [])), (109, 6, 6, (0, 299, [(10, 0)]))]
set_option maxRecDepth 100000 in
def zl117 : List (Nat × Int × Nat) := [(44, 8, 100044), (57, 8, 100057), (70, 8, 100070), (83, 8, 100083), (96, 8, 100096), (109, 8, 100109), (122, 8, 0), (135, 8, 100135), (148, 8, 100148), (161, 8, 100161), (174, 8, 100174), (187, 8, 100187)]
set_option maxRecDepth 100000 in
def zl118 : List (Nat × Int × Int × ck_I) := [(42, 2, 2, (1, 12, [])), (42, 1, 1, (0, 11, [])), (122, 6, 6, (0, 299, [(10, 0)]))]
set_option maxRecDepth 100000 in
def zl119 : List (Nat × Int × Nat) := [(44, 8, 100044), (57, 8, 100057), (70, 8, 100070), (83, 8, 100083), (96, 8, 100096), (109, 8, 100109), (122, 8, 100122), (135, 8, 0), (148, 8, 100148), (161, 8, 100161), (174, 8, 100174), (187, 8, 100187)]
set_option maxRecDepth 100000 in
def zl120 : List (Nat × Int × Int × ck_I) := [(42, 2, 2, (1, 12, [])), (42, 1, 1, (0, 11, [])), (135, 6, 6, (0, 299, [(10, 0)]))]
set_option maxRecDepth 100000 in
def zl121 : List (Nat × Int × Nat) := [(44, 8, 100044), (57, 8, 100057), (70, 8, 100070), (83, 8, 100083), (96, 8, 100096), (109, 8, 100109), (122, 8, 100122), (135, 8, 100135), (148, 8, 0), (161, 8, 100161), (174, 8, 100174), (187, 8, 100187)]
set_option maxRecDepth 100000 in
def zl122 : List (Nat × Int × Int × ck_I) := [(42, 2, 2, (1, 12, [])), (42, 1, 1, (0, 11, [])), (148, 6, 6, (0, 299, [(10, 0)]))]
set_option maxRecDepth 100000 in
def zl123 : List (Nat × Int × Nat) := [(44, 8, 100044), (57, 8, 100057), (70, 8, 100070), (83, 8, 100083), (96, 8, 100096), (109, 8, 100109), (122, 8, 100122), (135, 8, 100135), (148, 8, 100148), (161, 8, 0), (174, 8, 100174), (187, 8, 100187)]
set_option maxRecDepth 100000 in
def zl124 : List (Nat × Int × Int × ck_I) := [(42, 2, 2, (1, 12, [])), (42, 1, 1, (0, 11, [])), (161, 6, 6, (0, 299, [(10, 0)]))]
set_option maxRecDepth 100000 in
def zl125 : List (Nat × Int × Nat) := [(44, 8, 100044), (57, 8, 100057), (70, 8, 100070), (83, 8, 100083), (96, 8, 100096), (109, 8, 100109), (122, 8, 100122), (135, 8, 100135), (148, 8, 100148), (161, 8, 100161), (174, 8, 0), (187, 8, 100187)]
set_option maxRecDepth 100000 in
def zl126 : List (Nat × Int × Int × ck_I) := [(42, 2, 2, (1, 12, [])), (42, 1, 1, (0, 11, [])), (174, 6, 6, (0, 299, [(10, 0)]))]
set_option maxRecDepth 100000 in
def zl127 : List (Nat × Int × Nat) := [(44, 8, 100044), (57, 8, 100057), (70, 8, 100070), (83, 8, 100083), (96, 8, 100096), (109, 8, 100109), (122, 8, 100122), (135, 8, 100135), (148, 8, 100148), (161, 8, 100161), (174, 8, 100174), (187, 8, 0)]
set_option maxRecDepth 100000 in
def zl128 : List (Nat × Int × Int × ck_I) := [(42, 2, 2, (1, 12, [])), (42, 1, 1, (0, 11, [])), (187, 6, 6, (0, 299, [(10, 0)]))]
set_option maxRecDepth 100000 in
def zl129 : List (Nat × Int × Nat) := [(44, 8, 0), (57, 8, 100057), (70, 8, 100070), (83, 8, 100083), (96, 8, 100096), (109, 8, 100109), (122, 8, 100122), (135, 8, 100135), (148, 8, 100148), (161, 8, 100161), (174, 8, 100174), (187, 8, 100187)]
set_option maxRecDepth 100000 in
def zl130 : List (Nat × Int × Int × ck_I) := [(42, 2, 2, (1, 12, [])), (42, 1, 1, (0, 11, [])), (44, 6, 6, (0, 299, [(10, 0)]))]
set_option maxRecDepth 100000 in
def zl131 : List ck_Oc := [(.inr (some (.inl (0, 23, []))), 245, ([], [], [(10, 3, 3, (1, 24, []))])), (.inr (some (.inl (ck_one (-1)))), 245, ([], [], [(10, 3, 3, ck_one 24)]))]
set_option maxRecDepth 100000 in
def zl132 : List (Nat × Int × Int) := [(11, 0, 0), (11, 7, 7), (11, 14, 14), (11, 21, 21), (11, 28, 28), (11, 35, 35), (11, 42, 42), (11, 49, 49), (11, 56, 56), (11, 63, 63), (11, 70, 70), (11, 77, 77), (11, 84, 84), (11, 91, 91), (11, 98, 98), (11, 105, 105), (11, 112, 112), (11, 119, 119), (11, 126, 126), (11, 133, 133), (11, 140, 140), (11, 147, 147), (11, 154, 154), (11, 161, 161)]
set_option maxRecDepth 100000 in
def zl133 : List (Nat × Int × Int) := [(11, 1, 1), (11, 8, 8), (11, 15, 15), (11, 22, 22), (11, 29, 29), (11, 36, 36), (11, 43, 43), (11, 50, 50), (11, 57, 57), (11, 64, 64), (11, 71, 71), (11, 78, 78), (11, 85, 85), (11, 92, 92), (11, 99, 99), (11, 106, 106), (11, 113, 113), (11, 120, 120), (11, 127, 127), (11, 134, 134), (11, 141, 141), (11, 148, 148), (11, 155, 155), (11, 162, 162)]
set_option maxRecDepth 100000 in
def zl134 : List (Nat × Int × Int) := [(11, 2, 2), (11, 9, 9), (11, 16, 16), (11, 23, 23), (11, 30, 30), (11, 37, 37), (11, 44, 44), (11, 51, 51), (11, 58, 58), (11, 65, 65), (11, 72, 72), (11, 79, 79), (11, 86, 86), (11, 93, 93), (11, 100, 100), (11, 107, 107), (11, 114, 114), (11, 121, 121), (11, 128, 128), (11, 135, 135), (11, 142, 142), (11, 149, 149), (11, 156, 156), (11, 163, 163)]
set_option maxRecDepth 100000 in
def zl135 : List (Nat × Int × Int) := [(11, 3, 3), (11, 10, 10), (11, 17, 17), (11, 24, 24), (11, 31, 31), (11, 38, 38), (11, 45, 45), (11, 52, 52), (11, 59, 59), (11, 66, 66), (11, 73, 73), (11, 80, 80), (11, 87, 87), (11, 94, 94), (11, 101, 101), (11, 108, 108), (11, 115, 115), (11, 122, 122), (11, 129, 129), (11, 136, 136), (11, 143, 143), (11, 150, 150), (11, 157, 157), (11, 164, 164)]
set_option maxRecDepth 100000 in
def zl136 : List (Nat × Int × Int) := [(11, 4, 4), (11, 11, 11), (11, 18, 18), (11, 25, 25), (11, 32, 32), (11, 39, 39), (11, 46, 46), (11, 53, 53), (11, 60, 60), (11, 67, 67), (11, 74, 74), (11, 81, 81), (11, 88, 88), (11, 95, 95), (11, 102, 102), (11, 109, 109), (11, 116, 116), (11, 123, 123), (11, 130, 130), (11, 137, 137), (11, 144, 144), (11, 151, 151), (11, 158, 158), (11, 165, 165)]
set_option maxRecDepth 100000 in
def zl137 : List (Nat × Int × Int) := [(11, 5, 5), (11, 12, 12), (11, 19, 19), (11, 26, 26), (11, 33, 33), (11, 40, 40), (11, 47, 47), (11, 54, 54), (11, 61, 61), (11, 68, 68), (11, 75, 75), (11, 82, 82), (11, 89, 89), (11, 96, 96), (11, 103, 103), (11, 110, 110), (11, 117, 117), (11, 124, 124), (11, 131, 131), (11, 138, 138), (11, 145, 145), (11, 152, 152), (11, 159, 159), (11, 166, 166)]
set_option maxRecDepth 100000 in
def zl138 : List (Nat × Int × Int) := [(11, 6, 6), (11, 13, 13), (11, 20, 20), (11, 27, 27), (11, 34, 34), (11, 41, 41), (11, 48, 48), (11, 55, 55), (11, 62, 62), (11, 69, 69), (11, 76, 76), (11, 83, 83), (11, 90, 90), (11, 97, 97), (11, 104, 104), (11, 111, 111), (11, 118, 118), (11, 125, 125), (11, 132, 132), (11, 139, 139), (11, 146, 146), (11, 153, 153), (11, 160, 160), (11, 167, 167)]
set_option maxRecDepth 100000 in
def zl139 : List (Nat × Int × Int) := [(1, 15, 15), (10, 3, 3), (11, 0, 167), (42, 1, 2), (44, 0, 7), (45, 3, 3), (46, 0, 55), (47, 3, 3), (48, 0, 23), (49, 3, 3), (50, 0, 23), (51, 3, 3), (52, 0, 167), (53, 3, 3), (54, 0, 35), (55, 3, 3), (56, 0, 71), (57, 0, 7), (58, 3, 3), (59, 0, 55), (60, 3, 3), (61, 0, 23), (62, 3, 3), (63, 0, 23), (64, 3, 3), (65, 0, 167), (66, 3, 3), (67, 0, 35), (68, 3, 3), (69, 0, 71), (70, 0, 7), (71, 3, 3), (72, 0, 55), (73, 3, 3), (74, 0, 23), (75, 3, 3), (76, 0, 23), (77, 3, 3), (78, 0, 167), (79, 3, 3), (80, 0, 35), (81, 3, 3), (82, 0, 71), (83, 0, 7), (84, 3, 3), (85, 0, 55), (86, 3, 3), (87, 0, 23), (88, 3, 3), (89, 0, 23), (90, 3, 3), (91, 0, 167), (92, 3, 3), (93, 0, 35), (94, 3, 3), (95, 0, 71), (96, 0, 7), (97, 3, 3), (98, 0, 55), (99, 3, 3), (100, 0, 23), (101, 3, 3), (102, 0, 23), (103, 3, 3), (104, 0, 167), (105, 3, 3), (106, 0, 35), (107, 3, 3), (108, 0, 71), (109, 0, 7), (110, 3, 3), (111, 0, 55), (112, 3, 3), (113, 0, 23), (114, 3, 3), (115, 0, 23), (116, 3, 3), (117, 0, 167), (118, 3, 3), (119, 0, 35), (120, 3, 3), (121, 0, 71), (122, 0, 7), (123, 3, 3), (124, 0, 55), (125, 3, 3), (126, 0, 23), (127, 3, 3), (128, 0, 23), (129, 3, 3), (130, 0, 167), (131, 3, 3), (132, 0, 35), (133, 3, 3), (134, 0, 71), (135, 0, 7), (136, 3, 3), (137, 0, 55), (138, 3, 3), (139, 0, 23), (140, 3, 3), (141, 0, 23), (142, 3, 3), (143, 0, 167), (144, 3, 3), (145, 0, 35), (146, 3, 3), (147, 0, 71), (148, 0, 7), (149, 3, 3), (150, 0, 55), (151, 3, 3), (152, 0, 23), (153, 3, 3), (154, 0, 23), (155, 3, 3), (156, 0, 167), (157, 3, 3), (158, 0, 35), (159, 3, 3), (160, 0, 71), (161, 0, 7), (162, 3, 3), (163, 0, 55), (164, 3, 3), (165, 0, 23), (166, 3, 3), (167, 0, 23), (168, 3, 3), (169, 0, 167), (170, 3, 3), (171, 0, 35), (172, 3, 3), (173, 0, 71), (174, 0, 7), (175, 3, 3), (176, 0, 55), (177, 3, 3), (178, 0, 23), (179, 3, 3), (180, 0, 23), (181, 3, 3), (182, 0, 167), (183, 3, 3), (184, 0, 35), (185, 3, 3), (186, 0, 71), (187, 0, 7), (188, 3, 3), (189, 0, 55), (190, 3, 3), (191, 0, 23), (192, 3, 3), (193, 0, 23), (194, 3, 3), (195, 0, 167), (196, 3, 3), (197, 0, 35), (198, 3, 3), (199, 0, 71)]
set_option maxRecDepth 100000 in
def zl140 : List (Nat × Int × Int × ck_I) := [(10, 3, 3, (1, 24, [])), (1, 15, 15, ck_one 0), (42, 2, 2, (1, 12, [])), (42, 1, 1, (0, 11, []))]
set_option maxRecDepth 100000 in
def zl141 : List (Nat × Int × Int × ck_I) := [(10, 3, 3, ck_one 24), (1, 15, 15, ck_one 0), (42, 2, 2, (1, 12, [])), (42, 1, 1, (0, 11, []))]
set_option maxRecDepth 100000 in
def zl142 : List (Nat × Int × Int × ck_I) := [(10, 3, 3, (1, 24, [])), (1, 15, 15, ck_one 0), (42, 2, 2, (1, 12, [])), (42, 1, 1, (0, 11, [])), (44, 6, 6, (0, 299, [(10, 0)]))]
set_option maxRecDepth 100000 in
def zl143 : List (Nat × Int × Int × ck_I) := [(10, 3, 3, ck_one 24), (1, 15, 15, ck_one 0), (42, 2, 2, (1, 12, [])), (42, 1, 1, (0, 11, [])), (44, 6, 6, (0, 299, [(10, 0)]))]
set_option maxRecDepth 100000 in
def zl144 : List (Nat × Int × Int × ck_I) := [(10, 3, 3, (1, 24, [])), (1, 15, 15, ck_one 0), (42, 2, 2, (1, 12, [])), (42, 1, 1, (0, 11, [])), (187, 6, 6, (0, 299, [(10, 0)]))]
set_option maxRecDepth 100000 in
def zl145 : List (Nat × Int × Int × ck_I) := [(10, 3, 3, ck_one 24), (1, 15, 15, ck_one 0), (42, 2, 2, (1, 12, [])), (42, 1, 1, (0, 11, [])), (187, 6, 6, (0, 299, [(10, 0)]))]
set_option maxRecDepth 100000 in
def zl146 : List (Nat × Int × Int × ck_I) := [(10, 3, 3, (1, 24, [])), (1, 15, 15, ck_one 0), (42, 2, 2, (1, 12, [])), (42, 1, 1, (0, 11, [])), (174, 6, 6, (0, 299, [(10, 0)]))]
set_option maxRecDepth 100000 in
def zl147 : List (Nat × Int × Int × ck_I) := [(10, 3, 3, ck_one 24), (1, 15, 15, ck_one 0), (42, 2, 2, (1, 12, [])), (42, 1, 1, (0, 11, [])), (174, 6, 6, (0, 299, [(10, 0)]))]
set_option maxRecDepth 100000 in
def zl148 : List (Nat × Int × Int × ck_I) := [(10, 3, 3, (1, 24, [])), (1, 15, 15, ck_one 0), (42, 2, 2, (1, 12, [])), (42, 1, 1, (0, 11, [])), (161, 6, 6, (0, 299, [(10, 0)]))]
set_option maxRecDepth 100000 in
def zl149 : List (Nat × Int × Int × ck_I) := [(10, 3, 3, ck_one 24), (1, 15, 15, ck_one 0), (42, 2, 2, (1, 12, [])), (42, 1, 1, (0, 11, [])), (161, 6, 6, (0, 299, [(10, 0)]))]
set_option maxRecDepth 100000 in
def zl150 : List (Nat × Int × Int × ck_I) := [(10, 3, 3, (1, 24, [])), (1, 15, 15, ck_one 0), (42, 2, 2, (1, 12, [])), (42, 1, 1, (0, 11, [])), (148, 6, 6, (0, 299, [(10, 0)]))]
set_option maxRecDepth 100000 in
def zl151 : List (Nat × Int × Int × ck_I) := [(10, 3, 3, ck_one 24), (1, 15, 15, ck_one 0), (42, 2, 2, (1, 12, [])), (42, 1, 1, (0, 11, [])), (148, 6, 6, (0, 299, [(10, 0)]))]
set_option maxRecDepth 100000 in
def zl152 : List (Nat × Int × Int × ck_I) := [(10, 3, 3, (1, 24, [])), (1, 15, 15, ck_one 0), (42, 2, 2, (1, 12, [])), (42, 1, 1, (0, 11, [])), (135, 6, 6, (0, 299, [(10, 0)]))]
set_option maxRecDepth 100000 in
def zl153 : List (Nat × Int × Int × ck_I) := [(10, 3, 3, ck_one 24), (1, 15, 15, ck_one 0), (42, 2, 2, (1, 12, [])), (42, 1, 1, (0, 11, [])), (135, 6, 6, (0, 299, [(10, 0)]))]
set_option maxRecDepth 100000 in
def zl154 : List (Nat × Int × Int × ck_I) := [(10, 3, 3, (1, 24, [])), (1, 15, 15, ck_one 0), (42, 2, 2, (1, 12, [])), (42, 1, 1, (0, 11, [])), (122, 6, 6, (0, 299, [(10, 0)]))]
set_option maxRecDepth 100000 in
def zl155 : List (Nat × Int × Int × ck_I) := [(10, 3, 3, ck_one 24), (1, 15, 15, ck_one 0), (42, 2, 2, (1, 12, [])), (42, 1, 1, (0, 11, [])), (122, 6, 6, (0, 299, [(10, 0)]))]
set_option maxRecDepth 100000 in
def zl156 : List (Nat × Int × Int × ck_I) := [(10, 3, 3, (1, 24, [])), (1, 15, 15, ck_one 0), (42, 2, 2, (1, 12, [])), (42, 1, 1, (0, 11, [])), (109, 6, 6, (0, 299, [(10, 0)]))]
set_option maxRecDepth 100000 in
def zl157 : List (Nat × Int × Int × ck_I) := [(10, 3, 3, ck_one 24), (1, 15, 15, ck_one 0), (42, 2, 2, (1, 12, [])), (42, 1, 1, (0, 11, [])), (109, 6, 6, (0, 299, [(10, 0)]))]
set_option maxRecDepth 100000 in
def zl158 : List (Nat × Int × Int × ck_I) := [(10, 3, 3, (1, 24, [])), (1, 15, 15, ck_one 0), (42, 2, 2, (1, 12, [])), (42, 1, 1, (0, 11, [])), (96, 6, 6, (0, 299, [(10, 0)]))]
set_option maxRecDepth 100000 in
def zl159 : List (Nat × Int × Int × ck_I) := [(10, 3, 3, ck_one 24), (1, 15, 15, ck_one 0), (42, 2, 2, (1, 12, [])), (42, 1, 1, (0, 11, [])), (96, 6, 6, (0, 299, [(10, 0)]))]
set_option maxRecDepth 100000 in
def zl160 : List (Nat × Int × Int × ck_I) := [(10, 3, 3, (1, 24, [])), (1, 15, 15, ck_one 0), (42, 2, 2, (1, 12, [])), (42, 1, 1, (0, 11, [])), (83, 6, 6, (0, 299, [(10, 0)]))]
set_option maxRecDepth 100000 in
def zl161 : List (Nat × Int × Int × ck_I) := [(10, 3, 3, ck_one 24), (1, 15, 15, ck_one 0), (42, 2, 2, (1, 12, [])), (42, 1, 1, (0, 11, [])), (83, 6, 6, (0, 299, [(10, 0)]))]
set_option maxRecDepth 100000 in
def zl162 : List (Nat × Int × Int × ck_I) := [(10, 3, 3, (1, 24, [])), (1, 15, 15, ck_one 0), (42, 2, 2, (1, 12, [])), (42, 1, 1, (0, 11, [])), (70, 6, 6, (0, 299, [(10, 0)]))]
set_option maxRecDepth 100000 in
def zl163 : List (Nat × Int × Int × ck_I) := [(10, 3, 3, ck_one 24), (1, 15, 15, ck_one 0), (42, 2, 2, (1, 12, [])), (42, 1, 1, (0, 11, [])), (70, 6, 6, (0, 299, [(10, 0)]))]
set_option maxRecDepth 100000 in
def zl164 : List (Nat × Int × Int × ck_I) := [(10, 3, 3, (1, 24, [])), (1, 15, 15, ck_one 0), (42, 2, 2, (1, 12, [])), (42, 1, 1, (0, 11, [])), (57, 6, 6, (0, 299, [(10, 0)]))]
set_option maxRecDepth 100000 in
def zl165 : List (Nat × Int × Int × ck_I) := [(10, 3, 3, ck_one 24), (1, 15, 15, ck_one 0), (42, 2, 2, (1, 12, [])), (42, 1, 1, (0, 11, [])), (57, 6, 6, (0, 299, [(10, 0)]))]
set_option maxRecDepth 100000 in
def zl166 : List (Nat × Int × Int) := [(9, 2, 2), (9, 5, 5), (9, 8, 8), (9, 11, 11), (9, 14, 14), (9, 17, 17), (9, 20, 20), (9, 23, 23)]
set_option maxRecDepth 100000 in
def zl167 : List (Nat × Int × Int) := [(9, 2, 2), (9, 5, 5), (9, 8, 8), (9, 11, 11), (9, 14, 14), (9, 17, 17), (9, 20, 20), (9, 23, 23), (42, 1, 2), (44, 0, 7), (45, 3, 3), (46, 0, 55), (47, 3, 3), (48, 0, 23), (49, 3, 3), (50, 0, 23), (51, 3, 3), (52, 0, 167), (53, 3, 3), (54, 0, 35), (55, 3, 3), (56, 0, 71), (57, 0, 7), (58, 3, 3), (59, 0, 55), (60, 3, 3), (61, 0, 23), (62, 3, 3), (63, 0, 23), (64, 3, 3), (65, 0, 167), (66, 3, 3), (67, 0, 35), (68, 3, 3), (69, 0, 71), (70, 0, 7), (71, 3, 3), (72, 0, 55), (73, 3, 3), (74, 0, 23), (75, 3, 3), (76, 0, 23), (77, 3, 3), (78, 0, 167), (79, 3, 3), (80, 0, 35), (81, 3, 3), (82, 0, 71), (83, 0, 7), (84, 3, 3), (85, 0, 55), (86, 3, 3), (87, 0, 23), (88, 3, 3), (89, 0, 23), (90, 3, 3), (91, 0, 167), (92, 3, 3), (93, 0, 35), (94, 3, 3), (95, 0, 71), (96, 0, 7), (97, 3, 3), (98, 0, 55), (99, 3, 3), (100, 0, 23), (101, 3, 3), (102, 0, 23), (103, 3, 3), (104, 0, 167), (105, 3, 3), (106, 0, 35), (107, 3, 3), (108, 0, 71), (109, 0, 7), (110, 3, 3), (111, 0, 55), (112, 3, 3), (113, 0, 23), (114, 3, 3), (115, 0, 23), (116, 3, 3), (117, 0, 167), (118, 3, 3), (119, 0, 35), (120, 3, 3), (121, 0, 71), (122, 0, 7), (123, 3, 3), (124, 0, 55), (125, 3, 3), (126, 0, 23), (127, 3, 3), (128, 0, 23), (129, 3, 3), (130, 0, 167), (131, 3, 3), (132, 0, 35), (133, 3, 3), (134, 0, 71), (135, 0, 7), (136, 3, 3), (137, 0, 55), (138, 3, 3), (139, 0, 23), (140, 3, 3), (141, 0, 23), (142, 3, 3), (143, 0, 167), (144, 3, 3), (145, 0, 35), (146, 3, 3), (147, 0, 71), (148, 0, 7), (149, 3, 3), (150, 0, 55), (151, 3, 3), (152, 0, 23), (153, 3, 3), (154, 0, 23), (155, 3, 3), (156, 0, 167), (157, 3, 3), (158, 0, 35), (159, 3, 3), (160, 0, 71), (161, 0, 7), (162, 3, 3), (163, 0, 55), (164, 3, 3), (165, 0, 23), (166, 3, 3), (167, 0, 23), (168, 3, 3), (169, 0, 167), (170, 3, 3), (171, 0, 35), (172, 3, 3), (173, 0, 71), (174, 0, 7), (175, 3, 3), (176, 0, 55), (177, 3, 3), (178, 0, 23), (179, 3, 3), (180, 0, 23), (181, 3, 3), (182, 0, 167), (183, 3, 3), (184, 0, 35), (185, 3, 3), (186, 0, 71), (187, 0, 7), (188, 3, 3), (189, 0, 55), (190, 3, 3), (191, 0, 23), (192, 3, 3), (193, 0, 23), (194, 3, 3), (195, 0, 167), (196, 3, 3), (197, 0, 35), (198, 3, 3), (199, 0, 71)]
set_option maxRecDepth 100000 in
def zl168 : List ck_Oc := [(.inl 3, 245, ([], [(44, 8, 100044), (57, 8, 100057), (70, 8, 100070), (83, 8, 100083), (96, 8, 100096), (109, 8, 100109), (122, 8, 100122), (135, 8, 100135), (148, 8, 100148), (161, 8, 100161), (174, 8, 100174), (187, 8, 100187)], [])), (.inr (some (.inl ((-1), 98, []))), 245, ([], [(44, 8, 100044), (57, 8, 100057), (70, 8, 100070), (83, 8, 100083), (96, 8, 100096), (109, 8, 100109), (122, 8, 100122), (135, 8, 100135), (148, 8, 100148), (161, 8, 100161), (174, 8, 100174), (187, 8, 100187)], [(42, 2, 2, (1, 12, [])), (42, 1, 1, (0, 11, []))])), (.inr (some (.inl ((-1), 98, []))), 245, ([], [(44, 8, 0), (57, 8, 100057), (70, 8, 100070), (83, 8, 100083), (96, 8, 100096), (109, 8, 100109), (122, 8, 100122), (135, 8, 100135), (148, 8, 100148), (161, 8, 100161), (174, 8, 100174), (187, 8, 100187)], [(42, 2, 2, (1, 12, [])), (42, 1, 1, (0, 11, [])), (44, 6, 6, (0, 299, [(10, 0)]))])), (.inr (some (.inl ((-1), 98, []))), 245, ([], [(44, 8, 100044), (57, 8, 100057), (70, 8, 100070), (83, 8, 100083), (96, 8, 100096), (109, 8, 100109), (122, 8, 100122), (135, 8, 100135), (148, 8, 100148), (161, 8, 100161), (174, 8, 100174), (187, 8, 0)], [(42, 2, 2, (1, 12, [])), (42, 1, 1, (0, 11, [])), (187, 6, 6, (0, 299, [(10, 0)]))])), (.inr (some (.inl ((-1), 98, []))), 245, ([], [(44, 8, 100044), (57, 8, 100057), (70, 8, 100070), (83, 8, 100083), (96, 8, 100096), (109, 8, 100109), (122, 8, 100122), (135, 8, 100135), (148, 8, 100148), (161, 8, 100161), (174, 8, 0), (187, 8, 100187)], [(42, 2, 2, (1, 12, [])), (42, 1, 1, (0, 11, [])), (174, 6, 6, (0, 299, [(10, 0)]))])), (.inr (some (.inl ((-1), 98, []))), 245, ([], [(44, 8, 100044), (57, 8, 100057), (70, 8, 100070), (83, 8, 100083), (96, 8, 100096), (109, 8, 100109), (122, 8, 100122), (135, 8, 100135), (148, 8, 100148), (161, 8, 0), (174, 8, 100174), (187, 8, 100187)], [(42, 2, 2, (1, 12, [])), (42, 1, 1, (0, 11, [])), (161, 6, 6, (0, 299, [(10, 0)]))])), (.inr (some (.inl ((-1), 98, []))), 245, ([], [(44, 8, 100044), (57, 8, 100057), (70, 8, 100070), (83, 8, 100083), (96, 8, 100096), (109, 8, 100109), (122, 8, 100122), (135, 8, 100135), (148, 8, 0), (161, 8, 100161), (174, 8, 100174), (187, 8, 100187)], [(42, 2, 2, (1, 12, [])), (42, 1, 1, (0, 11, [])), (148, 6, 6, (0, 299, [(10, 0)]))])), (.inr (some (.inl ((-1), 98, []))), 245, ([], [(44, 8, 100044), (57, 8, 100057), (70, 8, 100070), (83, 8, 100083), (96, 8, 100096), (109, 8, 100109), (122, 8, 100122), (135, 8, 0), (148, 8, 100148), (161, 8, 100161), (174, 8, 100174), (187, 8, 100187)], [(42, 2, 2, (1, 12, [])), (42, 1, 1, (0, 11, [])), (135, 6, 6, (0, 299, [(10, 0)]))])), (.inr (some (.inl ((-1), 98, []))), 245, ([], [(44, 8, 100044), (57, 8, 100057), (70, 8, 100070), (83, 8, 100083), (96, 8, 100096), (109, 8, 100109), (122, 8, 0), (135, 8, 100135), (148, 8, 100148), (161, 8, 100161), (174, 8, 100174), (187, 8, 100187)], [(42, 2, 2, (1, 12, [])), (42, 1, 1, (0, 11, [])), (122, 6, 6, (0, 299, [(10, 0)]))])), (.inr (some (.inl ((-1), 98, []))), 245, ([], [(44, 8, 100044), (57, 8, 100057), (70, 8, 100070), (83, 8, 100083), (96, 8, 100096), (109, 8, 0), (122, 8, 100122), (135, 8, 100135), (148, 8, 100148), (161, 8, 100161), (174, 8, 100174), (187, 8, 100187)], [(42, 2, 2, (1, 12, [])), (42, 1, 1, (0, 11, [])), (109, 6, 6, (0, 299, [(10, 0)]))])), (.inr (some (.inl ((-1), 98, []))), 245, ([], [(44, 8, 100044), (57, 8, 100057), (70, 8, 100070), (83, 8, 100083), (96, 8, 0), (109, 8, 100109), (122, 8, 100122), (135, 8, 100135), (148, 8, 100148), (161, 8, 100161), (174, 8, 100174), (187, 8, 100187)], [(42, 2, 2, (1, 12, [])), (42, 1, 1, (0, 11, [])), (96, 6, 6, (0, 299, [(10, 0)]))])), (.inr (some (.inl ((-1), 98, []))), 245, ([], [(44, 8, 100044), (57, 8, 100057), (70, 8, 100070), (83, 8, 0), (96, 8, 100096), (109, 8, 100109), (122, 8, 100122), (135, 8, 100135), (148, 8, 100148), (161, 8, 100161), (174, 8, 100174), (187, 8, 100187)], [(42, 2, 2, (1, 12, [])), (42, 1, 1, (0, 11, [])), (83, 6, 6, (0, 299, [(10, 0)]))])), (.inr (some (.inl ((-1), 98, []))), 245, ([], [(44, 8, 100044), (57, 8, 100057), (70, 8, 0), (83, 8, 100083), (96, 8, 100096), (109, 8, 100109), (122, 8, 100122), (135, 8, 100135), (148, 8, 100148), (161, 8, 100161), (174, 8, 100174), (187, 8, 100187)], [(42, 2, 2, (1, 12, [])), (42, 1, 1, (0, 11, [])), (70, 6, 6, (0, 299, [(10, 0)]))])), (.inr (some (.inl ((-1), 98, []))), 245, ([], [(44, 8, 100044), (57, 8, 0), (70, 8, 100070), (83, 8, 100083), (96, 8, 100096), (109, 8, 100109), (122, 8, 100122), (135, 8, 100135), (148, 8, 100148), (161, 8, 100161), (174, 8, 100174), (187, 8, 100187)], [(42, 2, 2, (1, 12, [])), (42, 1, 1, (0, 11, [])), (57, 6, 6, (0, 299, [(10, 0)]))]))]
set_option maxRecDepth 100000 in
def zl169 : List (Nat × Int × Int × ck_I) := [(227, 3, 3, (0, 8, [(21, 0)])), (226, 6, 6, (0, 12, [(27, 0)]))]
set_option maxRecDepth 100000 in
def zl170 : List (Nat × Int × Int) := [(226, 0, 0), (226, 6, 6), (227, 97, 97), (227, 100, 100), (227, 103, 103), (227, 106, 106), (227, 109, 109), (227, 112, 112), (227, 115, 115), (227, 118, 118), (230, 0, 4739)]
set_option maxRecDepth 100000 in
def zl171 : List ck_Oc := [(.inr (some (.inl (0, 6, []))), 245, ([], [], [(226, 0, 0, (0, 1, [])), (226, 6, 6, (0, 12, [(1000027, 0)]))])), (.inr (some (.inl (ck_one (-1)))), 245, ([], [], [(226, 6, 6, (1, 12, [(1000027, 0)])), (226, 0, 0, ck_one 0)]))]
set_option maxRecDepth 100000 in
def zl172 : List (Nat × Int × Int) := [(15, 0, 0), (15, 3, 3), (15, 6, 6), (15, 9, 9), (15, 12, 12), (15, 15, 15), (15, 18, 18), (15, 21, 21), (15, 24, 24), (15, 27, 27), (15, 30, 30), (15, 33, 33), (15, 36, 36), (15, 39, 39), (15, 42, 42), (15, 45, 45), (15, 48, 48), (15, 51, 51), (15, 54, 54), (15, 57, 57), (15, 60, 60), (15, 63, 63), (15, 66, 66), (15, 69, 69)]
set_option maxRecDepth 100000 in
def zl173 : List (Nat × Int × Int) := [(15, 1, 1), (15, 4, 4), (15, 7, 7), (15, 10, 10), (15, 13, 13), (15, 16, 16), (15, 19, 19), (15, 22, 22), (15, 25, 25), (15, 28, 28), (15, 31, 31), (15, 34, 34), (15, 37, 37), (15, 40, 40), (15, 43, 43), (15, 46, 46), (15, 49, 49), (15, 52, 52), (15, 55, 55), (15, 58, 58), (15, 61, 61), (15, 64, 64), (15, 67, 67), (15, 70, 70)]
set_option maxRecDepth 100000 in
def zl174 : List (Nat × Int × Int) := [(15, 2, 2), (15, 5, 5), (15, 8, 8), (15, 11, 11), (15, 14, 14), (15, 17, 17), (15, 20, 20), (15, 23, 23), (15, 26, 26), (15, 29, 29), (15, 32, 32), (15, 35, 35), (15, 38, 38), (15, 41, 41), (15, 44, 44), (15, 47, 47), (15, 50, 50), (15, 53, 53), (15, 56, 56), (15, 59, 59), (15, 62, 62), (15, 65, 65), (15, 68, 68), (15, 71, 71)]
set_option maxRecDepth 100000 in
def zl175 : List ck_Oc := [(.inl 3, 245, ([], [(44, 8, 100044), (57, 8, 100057), (70, 8, 100070), (83, 8, 100083), (96, 8, 100096), (109, 8, 100109), (122, 8, 100122), (135, 8, 100135), (148, 8, 100148), (161, 8, 100161), (174, 8, 100174), (187, 8, 100187)], [])), (.inl 2, 245, ([], [(44, 8, 100044), (57, 8, 100057), (70, 8, 100070), (83, 8, 100083), (96, 8, 100096), (109, 8, 100109), (122, 8, 100122), (135, 8, 100135), (148, 8, 100148), (161, 8, 100161), (174, 8, 100174), (187, 8, 100187)], [(1, 15, 15, ck_one 1)])), (.inr (some (.inl ((-299), 300, []))), 245, ([], [(44, 8, 100044), (57, 8, 100057), (70, 8, 100070), (83, 8, 100083), (96, 8, 100096), (109, 8, 100109), (122, 8, 100122), (135, 8, 100135), (148, 8, 100148), (161, 8, 100161), (174, 8, 100174), (187, 8, 100187)], [(14, 3, 3, (1, 24, [])), (42, 2, 2, (1, 12, [])), (42, 1, 1, (0, 11, [])), (1, 15, 15, ck_one 1)])), (.inr (some (.inl ((-299), 300, []))), 245, ([], [(44, 8, 0), (57, 8, 100057), (70, 8, 100070), (83, 8, 100083), (96, 8, 100096), (109, 8, 100109), (122, 8, 100122), (135, 8, 100135), (148, 8, 100148), (161, 8, 100161), (174, 8, 100174), (187, 8, 100187)], [(14, 3, 3, (1, 24, [])), (42, 2, 2, (1, 12, [])), (42, 1, 1, (0, 11, [])), (44, 6, 6, (0, 299, [(10, 0)])), (1, 15, 15, ck_one 1)])), (.inr (some (.inl ((-299), 300, []))), 245, ([], [(44, 8, 100044), (57, 8, 100057), (70, 8, 100070), (83, 8, 100083), (96, 8, 100096), (109, 8, 100109), (122, 8, 100122), (135, 8, 100135), (148, 8, 100148), (161, 8, 100161), (174, 8, 100174), (187, 8, 0)], [(14, 3, 3, (1, 24, [])), (42, 2, 2, (1, 12, [])), (42, 1, 1, (0, 11, [])), (187, 6, 6, (0, 299, [(10, 0)])), (1, 15, 15, ck_one 1)])), (.inr (some (.inl ((-299), 300, []))), 245, ([], [(44, 8, 100044), (57, 8, 100057), (70, 8, 100070), (83, 8, 100083), (96, 8, 100096), (109, 8, 100109), (122, 8, 100122), (135, 8, 100135), (148, 8, 100148), (161, 8, 100161), (174, 8, 0), (187, 8, 100187)], [(14, 3, 3, (1, 24, [])), (42, 2, 2, (1, 12, [])), (42, 1, 1, (0, 11, [])), (174, 6, 6, (0, 299, [(10, 0)])), (1, 15, 15, ck_one 1)])), (.inr (some (.inl ((-299), 300, []))), 245, ([], [(44, 8, 100044), (57, 8, 100057), (70, 8, 100070), (83, 8, 100083), (96, 8, 100096), (109, 8, 100109), (122, 8, 100122), (135, 8, 100135), (148, 8, 100148), (161, 8, 0), (174, 8, 100174), (187, 8, 100187)], [(14, 3, 3, (1, 24, [])), (42, 2, 2, (1, 12, [])), (42, 1, 1, (0, 11, [])), (161, 6, 6, (0, 299, [(10, 0)])), (1, 15, 15, ck_one 1)])), (.inr (some (.inl ((-299), 300, []))), 245, ([], [(44, 8, 100044), (57, 8, 100057), (70, 8, 100070), (83, 8, 100083), (96, 8, 100096), (109, 8, 100109), (122, 8, 100122), (135, 8, 100135), (148, 8, 0), (161, 8, 100161), (174, 8, 100174), (187, 8, 100187)], [(14, 3, 3, (1, 24, [])), (42, 2, 2, (1, 12, [])), (42, 1, 1, (0, 11, [])), (148, 6, 6, (0, 299, [(10, 0)])), (1, 15, 15, ck_one 1)])), (.inr (some (.inl ((-299), 300, []))), 245, ([], [(44, 8, 100044), (57, 8, 100057), (70, 8, 100070), (83, 8, 100083), (96, 8, 100096), (109, 8, 100109), (122, 8, 100122), (135, 8, 0), (148, 8, 100148), (161, 8, 100161), (174, 8, 100174), (187, 8, 100187)], [(14, 3, 3, (1, 24, [])), (42, 2, 2, (1, 12, [])), (42, 1, 1, (0, 11, [])), (135, 6, 6, (0, 299, [(10, 0)])), (1, 15, 15, ck_one 1)])), (.inr (some (.inl ((-299), 300, []))), 245, ([], [(44, 8, 100044), (57, 8, 100057), (70, 8, 100070), (83, 8, 100083), (96, 8, 100096), (109, 8, 100109), (122, 8, 0), (135, 8, 100135), (148, 8, 100148), (161, 8, 100161), (174, 8, 100174), (187, 8, 100187)], [(14, 3, 3, (1, 24, [])), (42, 2, 2, (1, 12, [])), (42, 1, 1, (0, 11, [])), (122, 6, 6, (0, 299, [(10, 0)])), (1, 15, 15, ck_one 1)])), (.inr (some (.inl ((-299), 300, []))), 245, ([], [(44, 8, 100044), (57, 8, 100057), (70, 8, 100070), (83, 8, 100083), (96, 8, 100096), (109, 8, 0), (122, 8, 100122), (135, 8, 100135), (148, 8, 100148), (161, 8, 100161), (174, 8, 100174), (187, 8, 100187)], [(14, 3, 3, (1, 24, [])), (42, 2, 2, (1, 12, [])), (42, 1, 1, (0, 11, [])), (109, 6, 6, (0, 299, [(10, 0)])), (1, 15, 15, ck_one 1)])), (.inr (some (.inl ((-299), 300, []))), 245, ([], [(44, 8, 100044), (57, 8, 100057), (70, 8, 100070), (83, 8, 100083), (96, 8, 0), (109, 8, 100109), (122, 8, 100122), (135, 8, 100135), (148, 8, 100148), (161, 8, 100161), (174, 8, 100174), (187, 8, 100187)], [(14, 3, 3, (1, 24, [])), (42, 2, 2, (1, 12, [])), (42, 1, 1, (0, 11, [])), (96, 6, 6, (0, 299, [(10, 0)])), (1, 15, 15, ck_one 1)])), (.inr (some (.inl ((-299), 300, []))), 245, ([], [(44, 8, 100044), (57, 8, 100057), (70, 8, 100070), (83, 8, 0), (96, 8, 100096), (109, 8, 100109), (122, 8, 100122), (135, 8, 100135), (148, 8, 100148), (161, 8, 100161), (174, 8, 100174), (187, 8, 100187)], [(14, 3, 3, (1, 24, [])), (42, 2, 2, (1, 12, [])), (42, 1, 1, (0, 11, [])), (83, 6, 6, (0, 299, [(10, 0)])), (1, 15, 15, ck_one 1)])), (.inr (some (.inl ((-299), 300, []))), 245, ([], [(44, 8, 100044), (57, 8, 100057), (70, 8, 0), (83, 8, 100083), (96, 8, 100096), (109, 8, 100109), (122, 8, 100122), (135, 8, 100135), (148, 8, 100148), (161, 8, 100161), (174, 8, 100174), (187, 8, 100187)], [(14, 3, 3, (1, 24, [])), (42, 2, 2, (1, 12, [])), (42, 1, 1, (0, 11, [])), (70, 6, 6, (0, 299, [(10, 0)])), (1, 15, 15, ck_one 1)])), (.inr (some (.inl ((-299), 300, []))), 245, ([], [(44, 8, 100044), (57, 8, 0), (70, 8, 100070), (83, 8, 100083), (96, 8, 100096), (109, 8, 100109), (122, 8, 100122), (135, 8, 100135), (148, 8, 100148), (161, 8, 100161), (174, 8, 100174), (187, 8, 100187)], [(14, 3, 3, (1, 24, [])), (42, 2, 2, (1, 12, [])), (42, 1, 1, (0, 11, [])), (57, 6, 6, (0, 299, [(10, 0)])), (1, 15, 15, ck_one 1)]))]
set_option maxRecDepth 100000 in
def zl176 : List (Nat × Int × Int × ck_I) := [(227, 2, 2, (0, 8, [(20, 0)])), (227, 4, 4, (0, 24, [(22, 0)])), (227, 5, 5, (0, 8, [(23, 0)])), (226, 6, 6, (0, 12, [(27, 0)])), (227, 9, 9, (0, 299, [(11, 0)]))]
set_option maxRecDepth 100000 in
def zl177 : List (Nat × Int × Int × ck_I) := [(226, 0, 0, (1, 2, [])), (226, 6, 6, (0, 12, [(27, 0)]))]
set_option maxRecDepth 100000 in
def zl178 : List (Nat × Int × Int) := [(11, 5, 6), (11, 12, 13), (11, 19, 20), (11, 26, 27), (11, 33, 34), (11, 40, 41), (11, 47, 48), (11, 54, 55), (11, 61, 62), (11, 68, 69), (11, 75, 76), (11, 82, 83), (11, 89, 90), (11, 96, 97), (11, 103, 104), (11, 110, 111), (11, 117, 118), (11, 124, 125), (11, 131, 132), (11, 138, 139), (11, 145, 146), (11, 152, 153), (11, 159, 160), (11, 166, 167), (14, 3, 3), (15, 0, 71)]
set_option maxRecDepth 100000 in
def zl179 : List (Nat × Int × Int × ck_I) := [(226, 22, 22, ((-299), 299, [])), (226, 20, 20, ck_one 0), (226, 19, 19, (0, 299, [(11, 0)]))]
set_option maxRecDepth 100000 in
def zl180 : List (Nat × Int × Int × ck_I) := [(226, 29, 29, (0, 299, [])), (227, 9, 9, (1, 299, [(11, 0)])), (227, 3, 3, (0, 8, [(21, 0)]))]
set_option maxRecDepth 100000 in
def zl181 : List (Nat × Int × Int × ck_I) := [(227, 2, 2, (0, 8, [(20, 0)])), (227, 3, 3, (0, 8, [(21, 0)])), (227, 4, 4, (0, 24, [(22, 0)])), (227, 5, 5, (0, 8, [(23, 0)])), (227, 14, 14, (0, 24, [(26, 0)])), (226, 6, 6, (0, 12, [(27, 0)])), (227, 9, 9, (0, 299, [(11, 0)]))]
set_option maxRecDepth 100000 in
def zl182 : List (Nat × Int × Int) := [(226, 0, 0), (226, 6, 6), (226, 17, 23), (226, 26, 26), (226, 29, 30), (227, 9, 9), (227, 14, 14), (227, 124, 125), (227, 131, 132), (227, 138, 139), (227, 145, 146), (227, 152, 153), (227, 159, 160), (227, 166, 167), (227, 173, 174), (227, 180, 181), (227, 187, 188), (227, 194, 195), (227, 201, 202), (227, 208, 209), (227, 215, 216), (227, 222, 223), (227, 229, 230), (227, 236, 237), (227, 243, 244), (227, 250, 251), (227, 257, 258), (227, 264, 265), (227, 271, 272), (227, 278, 279), (227, 285, 286), (227, 323, 394), (230, 0, 4739), (233, 0, 399), (235, 0, 29699), (236, 0, 299), (237, 0, 299)]
set_option maxRecDepth 100000 in
def zl183 : List (Nat × Int × Int × ck_I) := [(206, 8, 8, ck_one 0), (206, 6, 6, ck_one 0), (206, 4, 4, ck_one (-1)), (206, 7, 7, (0, 299, []))]
set_option maxRecDepth 100000 in
def zl185 : List (Nat × Int × Int × ck_I) := [(206, 4, 4, (0, 7, [])), (206, 2, 2, ((-1), 299, []))]
set_option maxRecDepth 100000 in
def zl186 : List (Nat × Int × Int × ck_I) := [(227, 4, 4, (0, 24, [(22, 0)])), (227, 5, 5, (0, 8, [(23, 0)]))]
set_option maxRecDepth 100000 in
def zl187 : List (Nat × Int × Int × ck_I) := [(206, 8, 8, ((-2147483648), (-1), [])), (206, 4, 4, ck_one (-1)), (206, 2, 2, ((-1), 299, []))]
set_option maxRecDepth 100000 in
def zl188 : List (Nat × Int × Int × ck_I) := [(206, 8, 8, (0, 2147483647, [])), (206, 4, 4, ck_one (-1)), (206, 2, 2, ((-1), 299, []))]
set_option maxRecDepth 100000 in
def zl190 : List (Nat × Int × Int × ck_I) := [(207, 8, 8, ck_one 0), (207, 6, 6, ck_one 0), (207, 3, 3, ck_one 0), (207, 7, 7, ((-1), 299, [])), (207, 5, 5, ((-1), 299, []))]
set_option maxRecDepth 100000 in
def zl191 : List (Nat × Int × Int × ck_I) := [(207, 8, 8, ck_one 0), (207, 6, 6, ck_one 0), (207, 3, 3, ck_one 1), (207, 7, 7, ((-1), 299, [])), (207, 5, 5, ((-1), 299, []))]
set_option maxRecDepth 100000 in
def zl192 : List (Nat × Int × Int × ck_I) := [(207, 8, 8, ck_one 0), (207, 6, 6, ck_one 0), (207, 7, 7, ((-1), 299, [])), (207, 5, 5, ((-1), 299, []))]
set_option maxRecDepth 100000 in
def zl193 : List (Nat × Int × Int × ck_I) := [(207, 5, 5, ((-2147483648), 98, [])), (206, 5, 5, ((-2147483648), 98, []))]
set_option maxRecDepth 100000 in
def zl194 : List (Nat × Int × Int × ck_I) := [(207, 5, 5, ((-2147483648), 97, [])), (206, 5, 5, ((-2147483647), 98, [])), (206, 4, 4, ck_one (-1)), (206, 2, 2, ((-1), 299, []))]
set_option maxRecDepth 100000 in
def zl198 : List (Nat × Int × Int) := [(212, 2, 299), (212, 302, 599), (212, 602, 899), (212, 902, 1199), (212, 1202, 1499), (212, 1502, 1799), (212, 1802, 2099), (212, 2102, 2399)]
set_option maxRecDepth 100000 in
def zl199 : List (Nat × Int × Int) := [(206, 2, 8), (210, 0, 2399), (212, 2, 299), (212, 302, 599), (212, 602, 899), (212, 902, 1199), (212, 1202, 1499), (212, 1502, 1799), (212, 1802, 2099), (212, 2102, 2399)]
set_option maxRecDepth 100000 in
def zl200 : List (Nat × Int × Int) := [(206, 2, 8), (209, 3, 3), (210, 0, 2399), (211, 3, 3), (212, 0, 2399)]
set_option maxRecDepth 100000 in
def zl202 : List ck_Oc := [(.inl 3, 245, ([], [], [])), (.inl 0, 245, ([], [], [])), (.inr (some (.inl (ck_one (-1)))), 245, ([], [], [(206, 4, 4, ck_one (-1))])), (.inr (some (.inl (0, 2398, []))), 245, ([], [], [(206, 4, 4, ck_one (-1))]))]
set_option maxRecDepth 100000 in
def zl203 : List (Nat × Int × Int × ck_I) := [(227, 3, 3, (0, 8, [(21, 0)])), (227, 9, 9, (0, 299, [(11, 0)]))]
set_option maxRecDepth 100000 in
def zl204 : List ck_Oc := [(.inr (some (.inl (ck_one (-1)))), 245, ([], [], [])), (.inr (some (.inl (0, 7, []))), 245, ([], [], [(226, 36, 36, (0, 298, [(1000011, 0)])), (227, 3, 3, (1, 8, [(21, 0)]))]))]
set_option maxRecDepth 100000 in
def zl207 : List (Nat × Int × Int × ck_I) := [(207, 5, 5, ((-2147483648), 98, [])), (206, 5, 5, ((-2147483648), 98, [])), (206, 4, 4, ck_one (-1)), (206, 2, 2, ((-1), 299, []))]
set_option maxRecDepth 100000 in
def zl208 : List (Nat × Int × Int) := [(3, 0, 7), (4, 3, 3), (5, 0, 55), (6, 3, 3), (7, 0, 23), (8, 3, 3), (9, 0, 23), (10, 3, 3), (11, 0, 167), (12, 3, 3), (13, 0, 35), (14, 3, 3), (15, 0, 71), (42, 1, 2)]
set_option maxRecDepth 100000 in
def zl209 : List (Nat × Int × Int × ck_I) := [(42, 2, 2, (0, 11, [])), (42, 1, 1, (0, 11, []))]
set_option maxRecDepth 100000 in
def zl210 : List (Nat × Int × Int) := [(1, 15, 15), (3, 0, 7), (4, 3, 3), (5, 0, 55), (6, 3, 3), (7, 0, 23), (8, 3, 3), (9, 0, 23), (10, 3, 3), (11, 0, 167), (12, 3, 3), (13, 0, 35), (14, 3, 3), (15, 0, 71), (42, 1, 2)]
set_option maxRecDepth 100000 in
def zl211 : List (Nat × Int × Int × ck_I) := [(42, 2, 2, (0, 11, [])), (42, 1, 1, (0, 11, [])), (1, 15, 15, ck_one 0)]
set_option maxRecDepth 100000 in
def zl212 : List (Nat × Int × Int) := [(29, 0, 7), (30, 3, 3), (31, 0, 55), (32, 3, 3), (33, 0, 23), (34, 3, 3), (35, 0, 23), (36, 3, 3), (37, 0, 167), (38, 3, 3), (39, 0, 35), (40, 3, 3), (41, 0, 71)]
set_option maxRecDepth 100000 in
def zl213 : List (Nat × Int × Int) := [(1, 6, 6), (29, 0, 7), (30, 3, 3), (31, 0, 55), (32, 3, 3), (33, 0, 23), (34, 3, 3), (35, 0, 23), (36, 3, 3), (37, 0, 167), (38, 3, 3), (39, 0, 35), (40, 3, 3), (41, 0, 71)]
set_option maxRecDepth 100000 in
def zl214 : List (Nat × Int × Int × ck_I) := [(1, 6, 6, ck_one 1), (29, 6, 6, (0, 299, [(10, 0)]))]
set_option maxRecDepth 100000 in
def zl215 : List (Nat × Int × Int) := [(1, 15, 15), (3, 0, 7), (4, 3, 3), (5, 0, 55), (6, 3, 3), (7, 0, 23), (8, 3, 3), (9, 0, 23), (10, 3, 3), (11, 0, 167), (12, 3, 3), (13, 0, 35), (14, 3, 3), (15, 0, 71), (42, 2, 2), (200, 6, 6), (201, 0, 299), (202, 0, 593), (203, 0, 299)]
set_option maxRecDepth 100000 in
def zl216 : List (Nat × Int × Int × ck_I) := [(1, 15, 15, ck_one 0), (42, 2, 2, ck_one 0), (200, 6, 6, ck_one 1), (1, 6, 6, (1, 1, [(9, 0)]))]
set_option maxRecDepth 100000 in
def zl217 : List ck_Oc := [(.inr (some (.inl (ck_one (-1)))), 249, ([], [], [(214, 5, 5, ck_one (-1))])), (.inr (some (.inl (0, 400, []))), 249, ([], [], [(214, 5, 5, (0, 400, []))]))]
set_option maxRecDepth 100000 in
def zl218 : List ck_Oc := [(.inr (some (.inl (ck_one 0))), 249, ([], [], [])), (.inr (some (.inl (ck_one 1))), 249, ([], [], [(214, 3, 3, (5, 400, [(12, 0)])), (214, 4, 4, (0, 395, [])), (214, 6, 6, ck_one 257)]))]
set_option maxRecDepth 100000 in
def zl219 : List ck_Oc := [(.inr (some (.inl (ck_one 0))), 249, ([], [], [])), (.inr (some (.inl (ck_one 1))), 249, ([], [], [(214, 3, 3, (4, 400, [(12, 0)])), (214, 4, 4, (0, 396, [])), (214, 6, 6, ck_one 257)]))]
set_option maxRecDepth 100000 in
def zl220 : List ck_Oc := [(.inr (some (.inl (ck_one 0))), 249, ([], [], [])), (.inr (some (.inl (ck_one 1))), 249, ([], [], [(214, 3, 3, (6, 400, [(12, 0)])), (214, 4, 4, (0, 394, [])), (214, 6, 6, ck_one 257)]))]
set_option maxRecDepth 100000 in
def zl221 : List ck_Oc := [(.inr (some (.inl (ck_one 1))), 249, ([], [], [(214, 3, 3, (0, 400, [(1000012, 0)]))])), (.inr (some (.inl (ck_one 0))), 249, ([], [], [(214, 5, 5, (0, 400, [])), (214, 3, 3, (0, 400, [(1000012, 0)]))]))]
set_option maxRecDepth 100000 in
def zl222 : List ck_Oc := [(.inr (some (.inl (ck_one (-1)))), 249, ([], [], [(214, 5, 5, (0, 400, [])), (214, 3, 3, (0, 400, [(12, 0)]))])), (.inr (some (.inl (0, 5, []))), 249, ([], [], [(214, 3, 3, (0, 400, [(1000012, 0)]))]))]
set_option maxRecDepth 100000 in
def zl223 : List ck_Oc := [(.inr (some (.inl (ck_one (-1)))), 249, ([], [], [(214, 5, 5, (0, 400, [])), (214, 3, 3, (0, 400, [(12, 0)]))])), (.inr (some (.inl (0, 98, []))), 249, ([], [], [(214, 3, 3, (0, 400, [(1000012, 0)]))]))]
set_option maxRecDepth 100000 in
def zl224 : List ck_Oc := [(.inr (some (.inl (0, 23, []))), 249, ([], [], [(23, 3, 3, (1, 24, []))])), (.inr (some (.inl (ck_one (-1)))), 249, ([], [], [(23, 3, 3, ck_one 24)]))]
set_option maxRecDepth 100000 in
def zl225 : List ck_Oc := [(.inr (some (.inl (ck_one 0))), 249, ([], [], [(214, 5, 5, (0, 400, [])), (214, 3, 3, (0, 400, [(1000012, 0)]))])), (.inr (some (.inl (ck_one 1))), 249, ([], [], [(214, 3, 3, (0, 400, [(1000012, 0)]))]))]
set_option maxRecDepth 100000 in
def zl226 : List ck_Oc := [(.inr (some (.inl (ck_one 0))), 249, ([], [], [(214, 5, 5, (0, 400, [])), (214, 3, 3, (0, 400, [(1000012, 0)]))])), (.inr (some (.inl (ck_one 1))), 249, ([], [], [(214, 3, 3, (4, 400, [(1000012, 0)]))]))]
set_option maxRecDepth 100000 in
def zl227 : List (Nat × Int × Int) := [(200, 6, 6), (204, 0, 9), (205, 0, 14849), (206, 5, 8)]
set_option maxRecDepth 100000 in
def zl228 : List (Nat × Int × Int) := [(1, 15, 15), (200, 6, 6), (204, 0, 9), (205, 0, 14849), (206, 2, 8), (220, 3, 3), (221, 0, 47)]
set_option maxRecDepth 100000 in
def zl230 : List (Nat × Int × Nat) := [(3, 8, 246), (44, 8, 100044), (57, 8, 100057), (70, 8, 100070), (83, 8, 100083), (96, 8, 100096), (109, 8, 100109), (122, 8, 100122), (135, 8, 100135), (148, 8, 100148), (161, 8, 100161), (174, 8, 100174), (187, 8, 100187)]
set_option maxRecDepth 100000 in
def zl231 : List (Nat × Int × Nat) := [(44, 8, 100044), (57, 8, 246), (70, 8, 100070), (83, 8, 100083), (96, 8, 100096), (109, 8, 100109), (122, 8, 100122), (135, 8, 100135), (148, 8, 100148), (161, 8, 100161), (174, 8, 100174), (187, 8, 100187)]
set_option maxRecDepth 100000 in
def zl232 : List (Nat × Int × Nat) := [(44, 8, 100044), (57, 8, 100057), (70, 8, 246), (83, 8, 100083), (96, 8, 100096), (109, 8, 100109), (122, 8, 100122), (135, 8, 100135), (148, 8, 100148), (161, 8, 100161), (174, 8, 100174), (187, 8, 100187)]
set_option maxRecDepth 100000 in
def zl233 : List (Nat × Int × Nat) := [(44, 8, 100044), (57, 8, 100057), (70, 8, 100070), (83, 8, 246), (96, 8, 100096), (109, 8, 100109), (122, 8, 100122), (135, 8, 100135), (148, 8, 100148), (161, 8, 100161), (174, 8, 100174), (187, 8, 100187)]
set_option maxRecDepth 100000 in
def zl234 : List (Nat × Int × Nat) := [(44, 8, 100044), (57, 8, 100057), (70, 8, 100070), (83, 8, 100083), (96, 8, 246), (109, 8, 100109), (122, 8, 100122), (135, 8, 100135), (148, 8, 100148), (161, 8, 100161), (174, 8, 100174), (187, 8, 100187)]
set_option maxRecDepth 100000 in
def zl235 : List (Nat × Int × Nat) := [(44, 8, 100044), (57, 8, 100057), (70, 8, 100070), (83, 8, 100083), (96, 8, 100096), (109, 8, 246), (122, 8, 100122), (135, 8, 100135), (148, 8, 100148), (161, 8, 100161), (174, 8, 100174), (187, 8, 100187)]
set_option maxRecDepth 100000 in
def zl236 : List (Nat × Int × Nat) := [(44, 8, 100044), (57, 8, 100057), (70, 8, 100070), (83, 8, 100083), (96, 8, 100096), (109, 8, 100109), (122, 8, 246), (135, 8, 100135), (148, 8, 100148), (161, 8, 100161), (174, 8, 100174), (187, 8, 100187)]
set_option maxRecDepth 100000 in
def zl237 : List (Nat × Int × Nat) := [(44, 8, 100044), (57, 8, 100057), (70, 8, 100070), (83, 8, 100083), (96, 8, 100096), (109, 8, 100109), (122, 8, 100122), (135, 8, 246), (148, 8, 100148), (161, 8, 100161), (174, 8, 100174), (187, 8, 100187)]
set_option maxRecDepth 100000 in
def zl238 : List (Nat × Int × Nat) := [(44, 8, 100044), (57, 8, 100057), (70, 8, 100070), (83, 8, 100083), (96, 8, 100096), (109, 8, 100109), (122, 8, 100122), (135, 8, 100135), (148, 8, 246), (161, 8, 100161), (174, 8, 100174), (187, 8, 100187)]
set_option maxRecDepth 100000 in
def zl239 : List (Nat × Int × Nat) := [(44, 8, 100044), (57, 8, 100057), (70, 8, 100070), (83, 8, 100083), (96, 8, 100096), (109, 8, 100109), (122, 8, 100122), (135, 8, 100135), (148, 8, 100148), (161, 8, 246), (174, 8, 100174), (187, 8, 100187)]
set_option maxRecDepth 100000 in
def zl240 : List (Nat × Int × Nat) := [(44, 8, 100044), (57, 8, 100057), (70, 8, 100070), (83, 8, 100083), (96, 8, 100096), (109, 8, 100109), (122, 8, 100122), (135, 8, 100135), (148, 8, 100148), (161, 8, 100161), (174, 8, 246), (187, 8, 100187)]
set_option maxRecDepth 100000 in
def zl241 : List (Nat × Int × Nat) := [(44, 8, 100044), (57, 8, 100057), (70, 8, 100070), (83, 8, 100083), (96, 8, 100096), (109, 8, 100109), (122, 8, 100122), (135, 8, 100135), (148, 8, 100148), (161, 8, 100161), (174, 8, 100174), (187, 8, 246)]
set_option maxRecDepth 100000 in
def zl242 : List (Nat × Int × Nat) := [(44, 8, 246), (57, 8, 100057), (70, 8, 100070), (83, 8, 100083), (96, 8, 100096), (109, 8, 100109), (122, 8, 100122), (135, 8, 100135), (148, 8, 100148), (161, 8, 100161), (174, 8, 100174), (187, 8, 100187)]
set_option maxRecDepth 100000 in
def zl243 : List ck_Oc := [(.inr (some (.inl (0, 23, []))), 249, ([], [], [(10, 3, 3, (1, 24, []))])), (.inr (some (.inl (ck_one (-1)))), 249, ([], [], [(10, 3, 3, ck_one 24)]))]
set_option maxRecDepth 100000 in
def zl244 : List ck_Oc := [(.inl 3, 249, ([], [(44, 8, 100044), (57, 8, 100057), (70, 8, 100070), (83, 8, 100083), (96, 8, 100096), (109, 8, 100109), (122, 8, 100122), (135, 8, 100135), (148, 8, 100148), (161, 8, 100161), (174, 8, 100174), (187, 8, 100187)], [])), (.inr (some (.inl ((-1), 98, []))), 249, ([], [(44, 8, 100044), (57, 8, 100057), (70, 8, 100070), (83, 8, 100083), (96, 8, 100096), (109, 8, 100109), (122, 8, 100122), (135, 8, 100135), (148, 8, 100148), (161, 8, 100161), (174, 8, 100174), (187, 8, 100187)], [(42, 2, 2, (1, 12, [])), (42, 1, 1, (0, 11, []))])), (.inr (some (.inl ((-1), 98, []))), 249, ([], [(44, 8, 246), (57, 8, 100057), (70, 8, 100070), (83, 8, 100083), (96, 8, 100096), (109, 8, 100109), (122, 8, 100122), (135, 8, 100135), (148, 8, 100148), (161, 8, 100161), (174, 8, 100174), (187, 8, 100187)], [(42, 2, 2, (1, 12, [])), (42, 1, 1, (0, 11, [])), (44, 6, 6, (0, 299, [(10, 0)]))])), (.inr (some (.inl ((-1), 98, []))), 249, ([], [(44, 8, 100044), (57, 8, 100057), (70, 8, 100070), (83, 8, 100083), (96, 8, 100096), (109, 8, 100109), (122, 8, 100122), (135, 8, 100135), (148, 8, 100148), (161, 8, 100161), (174, 8, 100174), (187, 8, 246)], [(42, 2, 2, (1, 12, [])), (42, 1, 1, (0, 11, [])), (187, 6, 6, (0, 299, [(10, 0)]))])), (.inr (some (.inl ((-1), 98, []))), 249, ([], [(44, 8, 100044), (57, 8, 100057), (70, 8, 100070), (83, 8, 100083), (96, 8, 100096), (109, 8, 100109), (122, 8, 100122), (135, 8, 100135), (148, 8, 100148), (161, 8, 100161), (174, 8, 246), (187, 8, 100187)], [(42, 2, 2, (1, 12, [])), (42, 1, 1, (0, 11, [])), (174, 6, 6, (0, 299, [(10, 0)]))])), (.inr (some (.inl ((-1), 98, []))), 249, ([], [(44, 8, 100044), (57, 8, 100057), (70, 8, 100070), (83, 8, 100083), (96, 8, 100096), (109, 8, 100109), (122, 8, 100122), (135, 8, 100135), (148, 8, 100148), (161, 8, 246), (174, 8, 100174), (187, 8, 100187)], [(42, 2, 2, (1, 12, [])), (42, 1, 1, (0, 11, [])), (161, 6, 6, (0, 299, [(10, 0)]))])), (.inr (some (.inl ((-1), 98, []))), 249, ([], [(44, 8, 100044), (57, 8, 100057), (70, 8, 100070), (83, 8, 100083), (96, 8, 100096), (109, 8, 100109), (122, 8, 100122), (135, 8, 100135), (148, 8, 246), (161, 8, 100161), (174, 8, 100174), (187, 8, 100187)], [(42, 2, 2, (1, 12, [])), (42, 1, 1, (0, 11, [])), (148, 6, 6, (0, 299, [(10, 0)]))])), (.inr (some (.inl ((-1), 98, []))), 249, ([], [(44, 8, 100044), (57, 8, 100057), (70, 8, 100070), (83, 8, 100083), (96, 8, 100096), (109, 8, 100109), (122, 8, 100122), (135, 8, 246), (148, 8, 100148), (161, 8, 100161), (174, 8, 100174), (187, 8, 100187)], [(42, 2, 2, (1, 12, [])), (42, 1, 1, (0, 11, [])), (135, 6, 6, (0, 299, [(10, 0)]))])), (.inr (some (.inl ((-1), 98, []))), 249, ([], [(44, 8, 100044), (57, 8, 100057), (70, 8, 100070), (83, 8, 100083), (96, 8, 100096), (109, 8, 100109), (122, 8, 246), (135, 8, 100135), (148, 8, 100148), (161, 8, 100161), (174, 8, 100174), (187, 8, 100187)], [(42, 2, 2, (1, 12, [])), (42, 1, 1, (0, 11, [])), (122, 6, 6, (0, 299, [(10, 0)]))])), (.inr (some (.inl ((-1), 98, []))), 249, ([], [(44, 8, 100044), (57, 8, 100057), (70, 8, 100070), (83, 8, 100083), (96, 8, 100096), (109, 8, 246), (122, 8, 100122), (135, 8, 100135), (148, 8, 100148), (161, 8, 100161), (174, 8, 100174), (187, 8, 100187)], [(42, 2, 2, (1, 12, [])), (42, 1, 1, (0, 11, [])), (109, 6, 6, (0, 299, [(10, 0)]))])), (.inr (some (.inl ((-1), 98, []))), 249, ([], [(44, 8, 100044), (57, 8, 100057), (70, 8, 100070), (83, 8, 100083), (96, 8, 246), (109, 8, 100109), (122, 8, 100122), (135, 8, 100135), (148, 8, 100148), (161, 8, 100161), (174, 8, 100174), (187, 8, 100187)], [(42, 2, 2, (1, 12, [])), (42, 1, 1, (0, 11, [])), (96, 6, 6, (0, 299, [(10, 0)]))])), (.inr (some (.inl ((-1), 98, []))), 249, ([], [(44, 8, 100044), (57, 8, 100057), (70, 8, 100070), (83, 8, 246), (96, 8, 100096), (109, 8, 100109), (122, 8, 100122), (135, 8, 100135), (148, 8, 100148), (161, 8, 100161), (174, 8, 100174), (187, 8, 100187)], [(42, 2, 2, (1, 12, [])), (42, 1, 1, (0, 11, [])), (83, 6, 6, (0, 299, [(10, 0)]))])), (.inr (some (.inl ((-1), 98, []))), 249, ([], [(44, 8, 100044), (57, 8, 100057), (70, 8, 246), (83, 8, 100083), (96, 8, 100096), (109, 8, 100109), (122, 8, 100122), (135, 8, 100135), (148, 8, 100148), (161, 8, 100161), (174, 8, 100174), (187, 8, 100187)], [(42, 2, 2, (1, 12, [])), (42, 1, 1, (0, 11, [])), (70, 6, 6, (0, 299, [(10, 0)]))])), (.inr (some (.inl ((-1), 98, []))), 249, ([], [(44, 8, 100044), (57, 8, 246), (70, 8, 100070), (83, 8, 100083), (96, 8, 100096), (109, 8, 100109), (122, 8, 100122), (135, 8, 100135), (148, 8, 100148), (161, 8, 100161), (174, 8, 100174), (187, 8, 100187)], [(42, 2, 2, (1, 12, [])), (42, 1, 1, (0, 11, [])), (57, 6, 6, (0, 299, [(10, 0)]))]))]
set_option maxRecDepth 100000 in
def zl245 : List ck_Oc := [(.inl 3, 249, ([], [(44, 8, 100044), (57, 8, 100057), (70, 8, 100070), (83, 8, 100083), (96, 8, 100096), (109, 8, 100109), (122, 8, 100122), (135, 8, 100135), (148, 8, 100148), (161, 8, 100161), (174, 8, 100174), (187, 8, 100187)], [])), (.inl 2, 249, ([], [(44, 8, 100044), (57, 8, 100057), (70, 8, 100070), (83, 8, 100083), (96, 8, 100096), (109, 8, 100109), (122, 8, 100122), (135, 8, 100135), (148, 8, 100148), (161, 8, 100161), (174, 8, 100174), (187, 8, 100187)], [(1, 15, 15, ck_one 1)])), (.inr (some (.inl ((-299), 300, []))), 249, ([], [(44, 8, 100044), (57, 8, 100057), (70, 8, 100070), (83, 8, 100083), (96, 8, 100096), (109, 8, 100109), (122, 8, 100122), (135, 8, 100135), (148, 8, 100148), (161, 8, 100161), (174, 8, 100174), (187, 8, 100187)], [(14, 3, 3, (1, 24, [])), (42, 2, 2, (1, 12, [])), (42, 1, 1, (0, 11, [])), (1, 15, 15, ck_one 1)])), (.inr (some (.inl ((-299), 300, []))), 249, ([], [(44, 8, 246), (57, 8, 100057), (70, 8, 100070), (83, 8, 100083), (96, 8, 100096), (109, 8, 100109), (122, 8, 100122), (135, 8, 100135), (148, 8, 100148), (161, 8, 100161), (174, 8, 100174), (187, 8, 100187)], [(14, 3, 3, (1, 24, [])), (42, 2, 2, (1, 12, [])), (42, 1, 1, (0, 11, [])), (44, 6, 6, (0, 299, [(10, 0)])), (1, 15, 15, ck_one 1)])), (.inr (some (.inl ((-299), 300, []))), 249, ([], [(44, 8, 100044), (57, 8, 100057), (70, 8, 100070), (83, 8, 100083), (96, 8, 100096), (109, 8, 100109), (122, 8, 100122), (135, 8, 100135), (148, 8, 100148), (161, 8, 100161), (174, 8, 100174), (187, 8, 246)], [(14, 3, 3, (1, 24, [])), (42, 2, 2, (1, 12, [])), (42, 1, 1, (0, 11, [])), (187, 6, 6, (0, 299, [(10, 0)])), (1, 15, 15, ck_one 1)])), (.inr (some (.inl ((-299), 300, []))), 249, ([], [(44, 8, 100044), (57, 8, 100057), (70, 8, 100070), (83, 8, 100083), (96, 8, 100096), (109, 8, 100109), (122, 8, 100122), (135, 8, 100135), (148, 8, 100148), (161, 8, 100161), (174, 8, 246), (187, 8, 100187)], [(14, 3, 3, (1, 24, [])), (42, 2, 2, (1, 12, [])), (42, 1, 1, (0, 11, [])), (174, 6, 6, (0, 299, [(10, 0)])), (1, 15, 15, ck_one 1)])), (.inr (some (.inl ((-299), 300, []))), 249, ([], [(44, 8, 100044), (57, 8, 100057), (70, 8, 100070), (83, 8, 100083), (96, 8, 100096), (109, 8, 100109), (122, 8, 100122), (135, 8, 100135), (148, 8, 100148), (161, 8, 246), (174, 8, 100174), (187, 8, 100187)], [(14, 3, 3, (1, 24, [])), (42, 2, 2, (1, 12, [])), (42, 1, 1, (0, 11, [])), (161, 6, 6, (0, 299, [(10, 0)])), (1, 15, 15, ck_one 1)])), (.inr (some (.inl ((-299), 300, []))), 249, ([], [(44, 8, 100044), (57, 8, 100057), (70, 8, 100070), (83, 8, 100083), (96, 8, 100096), (109, 8, 100109), (122, 8, 100122), (135, 8, 100135), (148, 8, 246), (161, 8, 100161), (174, 8, 100174), (187, 8, 100187)], [(14, 3, 3, (1, 24, [])), (42, 2, 2, (1, 12, [])), (42, 1, 1, (0, 11, [])), (148, 6, 6, (0, 299, [(10, 0)])), (1, 15, 15, ck_one 1)])), (.inr (some (.inl ((-299), 300, []))), 249, ([], [(44, 8, 100044), (57, 8, 100057), (70, 8, 100070), (83, 8, 100083), (96, 8, 100096), (109, 8, 100109), (122, 8, 100122), (135, 8, 246), (148, 8, 100148), (161, 8, 100161), (174, 8, 100174), (187, 8, 100187)], [(14, 3, 3, (1, 24, [])), (42, 2, 2, (1, 12, [])), (42, 1, 1, (0, 11, [])), (135, 6, 6, (0, 299, [(10, 0)])), (1, 15, 15, ck_one 1)])), (.inr (some (.inl ((-299), 300, []))), 249, ([], [(44, 8, 100044), (57, 8, 100057), (70, 8, 100070), (83, 8, 100083), (96, 8, 100096), (109, 8, 100109), (122, 8, 246), (135, 8, 100135), (148, 8, 100148), (161, 8, 100161), (174, 8, 100174), (187, 8, 100187)], [(14, 3, 3, (1, 24, [])), (42, 2, 2, (1, 12, [])), (42, 1, 1, (0, 11, [])), (122, 6, 6, (0, 299, [(10, 0)])), (1, 15, 15, ck_one 1)])), (.inr (some (.inl ((-299), 300, []))), 249, ([], [(44, 8, 100044), (57, 8, 100057), (70, 8, 100070), (83, 8, 100083), (96, 8, 100096), (109, 8, 246), (122, 8, 100122), (135, 8, 100135), (148, 8, 100148), (161, 8, 100161), (174, 8, 100174), (187, 8, 100187)], [(14, 3, 3, (1, 24, [])), (42, 2, 2, (1, 12, [])), (42, 1, 1, (0, 11, [])), (109, 6, 6, (0, 299, [(10, 0)])), (1, 15, 15, ck_one 1)])), (.inr (some (.inl ((-299), 300, []))), 249, ([], [(44, 8, 100044), (57, 8, 100057), (70, 8, 100070), (83, 8, 100083), (96, 8, 246), (109, 8, 100109), (122, 8, 100122), (135, 8, 100135), (148, 8, 100148), (161, 8, 100161), (174, 8, 100174), (187, 8, 100187)], [(14, 3, 3, (1, 24, [])), (42, 2, 2, (1, 12, [])), (42, 1, 1, (0, 11, [])), (96, 6, 6, (0, 299, [(10, 0)])), (1, 15, 15, ck_one 1)])), (.inr (some (.inl ((-299), 300, []))), 249, ([], [(44, 8, 100044), (57, 8, 100057), (70, 8, 100070), (83, 8, 246), (96, 8, 100096), (109, 8, 100109), (122, 8, 100122), (135, 8, 100135), (148, 8, 100148), (161, 8, 100161), (174, 8, 100174), (187, 8, 100187)], [(14, 3, 3, (1, 24, [])), (42, 2, 2, (1, 12, [])), (42, 1, 1, (0, 11, [])), (83, 6, 6, (0, 299, [(10, 0)])), (1, 15, 15, ck_one 1)])), (.inr (some (.inl ((-299), 300, []))), 249, ([], [(44, 8, 100044), (57, 8, 100057), (70, 8, 246), (83, 8, 100083), (96, 8, 100096), (109, 8, 100109), (122, 8, 100122), (135, 8, 100135), (148, 8, 100148), (161, 8, 100161), (174, 8, 100174), (187, 8, 100187)], [(14, 3, 3, (1, 24, [])), (42, 2, 2, (1, 12, [])), (42, 1, 1, (0, 11, [])), (70, 6, 6, (0, 299, [(10, 0)])), (1, 15, 15, ck_one 1)])), (.inr (some (.inl ((-299), 300, []))), 249, ([], [(44, 8, 100044), (57, 8, 246), (70, 8, 100070), (83, 8, 100083), (96, 8, 100096), (109, 8, 100109), (122, 8, 100122), (135, 8, 100135), (148, 8, 100148), (161, 8, 100161), (174, 8, 100174), (187, 8, 100187)], [(14, 3, 3, (1, 24, [])), (42, 2, 2, (1, 12, [])), (42, 1, 1, (0, 11, [])), (57, 6, 6, (0, 299, [(10, 0)])), (1, 15, 15, ck_one 1)]))]
set_option maxRecDepth 100000 in
def zl246 : List (Nat × Int × Int × ck_I) := [(204, 7, 7, ((-2147483648), 299, [])), (204, 6, 6, ((-299), 300, [])), (204, 5, 5, (0, 7, [])), (204, 9, 9, (0, 1, [])), (204, 8, 8, (0, 1, [])), (204, 4, 4, ck_one 0), (204, 3, 3, (0, 9, [])), (204, 2, 2, (0, 299, [])), (204, 1, 1, (10, 99, [])), (204, 0, 0, ((-1), 98, []))]
set_option maxRecDepth 100000 in
def zl253 : List (Nat × Int × Int) := [(1, 1, 2), (1, 15, 15), (3, 0, 7), (4, 3, 3), (5, 0, 55), (6, 3, 3), (7, 0, 23), (8, 3, 3), (9, 0, 23), (10, 3, 3), (11, 0, 167), (12, 3, 3), (13, 0, 35), (14, 3, 3), (15, 0, 71), (16, 0, 7), (17, 3, 3), (18, 0, 55), (19, 3, 3), (20, 0, 23), (21, 3, 3), (22, 0, 23), (23, 3, 3), (24, 0, 167), (25, 3, 3), (26, 0, 35), (27, 3, 3), (28, 0, 71), (42, 2, 2), (200, 6, 6), (201, 0, 299), (202, 0, 593), (203, 0, 299), (214, 2, 7), (245, 0, 0)]
set_option maxRecDepth 100000 in
def zl254 : List (Nat × Int × Int × ck_I) := [(1, 15, 15, ck_one 0), (42, 2, 2, ck_one 0), (200, 6, 6, ck_one 1), (1, 1, 1, ck_one 0), (1, 2, 2, ck_one (-1)), (214, 5, 5, ck_one (-1)), (16, 6, 6, (0, 299, [(10, 0)]))]
set_option maxRecDepth 100000 in
def zl256 : List (Nat × Int × Int) := [(1, 15, 15), (10, 3, 3), (11, 0, 167), (42, 1, 2), (44, 0, 7), (45, 3, 3), (46, 0, 55), (47, 3, 3), (48, 0, 23), (49, 3, 3), (50, 0, 23), (51, 3, 3), (52, 0, 167), (53, 3, 3), (54, 0, 35), (55, 3, 3), (56, 0, 71), (57, 0, 7), (58, 3, 3), (59, 0, 55), (60, 3, 3), (61, 0, 23), (62, 3, 3), (63, 0, 23), (64, 3, 3), (65, 0, 167), (66, 3, 3), (67, 0, 35), (68, 3, 3), (69, 0, 71), (70, 0, 7), (71, 3, 3), (72, 0, 55), (73, 3, 3), (74, 0, 23), (75, 3, 3), (76, 0, 23), (77, 3, 3), (78, 0, 167), (79, 3, 3), (80, 0, 35), (81, 3, 3), (82, 0, 71), (83, 0, 7), (84, 3, 3), (85, 0, 55), (86, 3, 3), (87, 0, 23), (88, 3, 3), (89, 0, 23), (90, 3, 3), (91, 0, 167), (92, 3, 3), (93, 0, 35), (94, 3, 3), (95, 0, 71), (96, 0, 7), (97, 3, 3), (98, 0, 55), (99, 3, 3), (100, 0, 23), (101, 3, 3), (102, 0, 23), (103, 3, 3), (104, 0, 167), (105, 3, 3), (106, 0, 35), (107, 3, 3), (108, 0, 71), (109, 0, 7), (110, 3, 3), (111, 0, 55), (112, 3, 3), (113, 0, 23), (114, 3, 3), (115, 0, 23), (116, 3, 3), (117, 0, 167), (118, 3, 3), (119, 0, 35), (120, 3, 3), (121, 0, 71), (122, 0, 7), (123, 3, 3), (124, 0, 55), (125, 3, 3), (126, 0, 23), (127, 3, 3), (128, 0, 23), (129, 3, 3), (130, 0, 167), (131, 3, 3), (132, 0, 35), (133, 3, 3), (134, 0, 71), (135, 0, 7), (136, 3, 3), (137, 0, 55), (138, 3, 3), (139, 0, 23), (140, 3, 3), (141, 0, 23), (142, 3, 3), (143, 0, 167), (144, 3, 3), (145, 0, 35), (146, 3, 3), (147, 0, 71), (148, 0, 7), (149, 3, 3), (150, 0, 55), (151, 3, 3), (152, 0, 23), (153, 3, 3), (154, 0, 23), (155, 3, 3), (156, 0, 167), (157, 3, 3), (158, 0, 35), (159, 3, 3), (160, 0, 71), (161, 0, 7), (162, 3, 3), (163, 0, 55), (164, 3, 3), (165, 0, 23), (166, 3, 3), (167, 0, 23), (168, 3, 3), (169, 0, 167), (170, 3, 3), (171, 0, 35), (172, 3, 3), (173, 0, 71), (174, 0, 7), (175, 3, 3), (176, 0, 55), (177, 3, 3), (178, 0, 23), (179, 3, 3), (180, 0, 23), (181, 3, 3), (182, 0, 167), (183, 3, 3), (184, 0, 35), (185, 3, 3), (186, 0, 71), (187, 0, 7), (188, 3, 3), (189, 0, 55), (190, 3, 3), (191, 0, 23), (192, 3, 3), (193, 0, 23), (194, 3, 3), (195, 0, 167), (196, 3, 3), (197, 0, 35), (198, 3, 3), (199, 0, 71), (245, 0, 0)]
set_option maxRecDepth 100000 in
def zl257 : List (Nat × Int × Int × ck_I) := [(245, 0, 0, ((-1), 23, [])), (10, 3, 3, (1, 24, [])), (1, 15, 15, ck_one 0), (42, 2, 2, (1, 12, [])), (42, 1, 1, (0, 11, [])), (57, 6, 6, (0, 299, [(10, 0)]))]
set_option maxRecDepth 100000 in
def zl258 : List (Nat × Int × Int × ck_I) := [(245, 0, 0, ((-1), 23, [])), (10, 3, 3, (1, 24, [])), (1, 15, 15, ck_one 0), (42, 2, 2, (1, 12, [])), (42, 1, 1, (0, 11, [])), (70, 6, 6, (0, 299, [(10, 0)]))]
set_option maxRecDepth 100000 in
def zl259 : List (Nat × Int × Int × ck_I) := [(245, 0, 0, ((-1), 23, [])), (10, 3, 3, (1, 24, [])), (1, 15, 15, ck_one 0), (42, 2, 2, (1, 12, [])), (42, 1, 1, (0, 11, [])), (83, 6, 6, (0, 299, [(10, 0)]))]
set_option maxRecDepth 100000 in
def zl260 : List (Nat × Int × Int × ck_I) := [(245, 0, 0, ((-1), 23, [])), (10, 3, 3, (1, 24, [])), (1, 15, 15, ck_one 0), (42, 2, 2, (1, 12, [])), (42, 1, 1, (0, 11, [])), (96, 6, 6, (0, 299, [(10, 0)]))]
set_option maxRecDepth 100000 in
def zl261 : List (Nat × Int × Int × ck_I) := [(245, 0, 0, ((-1), 23, [])), (10, 3, 3, (1, 24, [])), (1, 15, 15, ck_one 0), (42, 2, 2, (1, 12, [])), (42, 1, 1, (0, 11, [])), (109, 6, 6, (0, 299, [(10, 0)]))]
set_option maxRecDepth 100000 in
def zl262 : List (Nat × Int × Int × ck_I) := [(245, 0, 0, ((-1), 23, [])), (10, 3, 3, (1, 24, [])), (1, 15, 15, ck_one 0), (42, 2, 2, (1, 12, [])), (42, 1, 1, (0, 11, [])), (122, 6, 6, (0, 299, [(10, 0)]))]
set_option maxRecDepth 100000 in
def zl263 : List (Nat × Int × Int × ck_I) := [(245, 0, 0, ((-1), 23, [])), (10, 3, 3, (1, 24, [])), (1, 15, 15, ck_one 0), (42, 2, 2, (1, 12, [])), (42, 1, 1, (0, 11, [])), (135, 6, 6, (0, 299, [(10, 0)]))]
set_option maxRecDepth 100000 in
def zl264 : List (Nat × Int × Int × ck_I) := [(245, 0, 0, ((-1), 23, [])), (10, 3, 3, (1, 24, [])), (1, 15, 15, ck_one 0), (42, 2, 2, (1, 12, [])), (42, 1, 1, (0, 11, [])), (148, 6, 6, (0, 299, [(10, 0)]))]
set_option maxRecDepth 100000 in
def zl265 : List (Nat × Int × Int × ck_I) := [(245, 0, 0, ((-1), 23, [])), (10, 3, 3, (1, 24, [])), (1, 15, 15, ck_one 0), (42, 2, 2, (1, 12, [])), (42, 1, 1, (0, 11, [])), (161, 6, 6, (0, 299, [(10, 0)]))]
set_option maxRecDepth 100000 in
def zl266 : List (Nat × Int × Int × ck_I) := [(245, 0, 0, ((-1), 23, [])), (10, 3, 3, (1, 24, [])), (1, 15, 15, ck_one 0), (42, 2, 2, (1, 12, [])), (42, 1, 1, (0, 11, [])), (174, 6, 6, (0, 299, [(10, 0)]))]
set_option maxRecDepth 100000 in
def zl267 : List (Nat × Int × Int × ck_I) := [(245, 0, 0, ((-1), 23, [])), (10, 3, 3, (1, 24, [])), (1, 15, 15, ck_one 0), (42, 2, 2, (1, 12, [])), (42, 1, 1, (0, 11, [])), (187, 6, 6, (0, 299, [(10, 0)]))]
set_option maxRecDepth 100000 in
def zl268 : List (Nat × Int × Int × ck_I) := [(245, 0, 0, ((-1), 23, [])), (10, 3, 3, (1, 24, [])), (1, 15, 15, ck_one 0), (42, 2, 2, (1, 12, [])), (42, 1, 1, (0, 11, [])), (44, 6, 6, (0, 299, [(10, 0)]))]
set_option maxRecDepth 100000 in
def zl269 : List (Nat × Int × Int × ck_I) := [(245, 0, 0, ((-1), 23, [])), (10, 3, 3, (1, 24, [])), (1, 15, 15, ck_one 0), (42, 2, 2, (1, 12, [])), (42, 1, 1, (0, 11, []))]
set_option maxRecDepth 100000 in
def zl270 : List (Nat × Int × Int) := [(9, 2, 2), (9, 5, 5), (9, 8, 8), (9, 11, 11), (9, 14, 14), (9, 17, 17), (9, 20, 20), (9, 23, 23), (42, 1, 2), (44, 0, 7), (45, 3, 3), (46, 0, 55), (47, 3, 3), (48, 0, 23), (49, 3, 3), (50, 0, 23), (51, 3, 3), (52, 0, 167), (53, 3, 3), (54, 0, 35), (55, 3, 3), (56, 0, 71), (57, 0, 7), (58, 3, 3), (59, 0, 55), (60, 3, 3), (61, 0, 23), (62, 3, 3), (63, 0, 23), (64, 3, 3), (65, 0, 167), (66, 3, 3), (67, 0, 35), (68, 3, 3), (69, 0, 71), (70, 0, 7), (71, 3, 3), (72, 0, 55), (73, 3, 3), (74, 0, 23), (75, 3, 3), (76, 0, 23), (77, 3, 3), (78, 0, 167), (79, 3, 3), (80, 0, 35), (81, 3, 3), (82, 0, 71), (83, 0, 7), (84, 3, 3), (85, 0, 55), (86, 3, 3), (87, 0, 23), (88, 3, 3), (89, 0, 23), (90, 3, 3), (91, 0, 167), (92, 3, 3), (93, 0, 35), (94, 3, 3), (95, 0, 71), (96, 0, 7), (97, 3, 3), (98, 0, 55), (99, 3, 3), (100, 0, 23), (101, 3, 3), (102, 0, 23), (103, 3, 3), (104, 0, 167), (105, 3, 3), (106, 0, 35), (107, 3, 3), (108, 0, 71), (109, 0, 7), (110, 3, 3), (111, 0, 55), (112, 3, 3), (113, 0, 23), (114, 3, 3), (115, 0, 23), (116, 3, 3), (117, 0, 167), (118, 3, 3), (119, 0, 35), (120, 3, 3), (121, 0, 71), (122, 0, 7), (123, 3, 3), (124, 0, 55), (125, 3, 3), (126, 0, 23), (127, 3, 3), (128, 0, 23), (129, 3, 3), (130, 0, 167), (131, 3, 3), (132, 0, 35), (133, 3, 3), (134, 0, 71), (135, 0, 7), (136, 3, 3), (137, 0, 55), (138, 3, 3), (139, 0, 23), (140, 3, 3), (141, 0, 23), (142, 3, 3), (143, 0, 167), (144, 3, 3), (145, 0, 35), (146, 3, 3), (147, 0, 71), (148, 0, 7), (149, 3, 3), (150, 0, 55), (151, 3, 3), (152, 0, 23), (153, 3, 3), (154, 0, 23), (155, 3, 3), (156, 0, 167), (157, 3, 3), (158, 0, 35), (159, 3, 3), (160, 0, 71), (161, 0, 7), (162, 3, 3), (163, 0, 55), (164, 3, 3), (165, 0, 23), (166, 3, 3), (167, 0, 23), (168, 3, 3), (169, 0, 167), (170, 3, 3), (171, 0, 35), (172, 3, 3), (173, 0, 71), (174, 0, 7), (175, 3, 3), (176, 0, 55), (177, 3, 3), (178, 0, 23), (179, 3, 3), (180, 0, 23), (181, 3, 3), (182, 0, 167), (183, 3, 3), (184, 0, 35), (185, 3, 3), (186, 0, 71), (187, 0, 7), (188, 3, 3), (189, 0, 55), (190, 3, 3), (191, 0, 23), (192, 3, 3), (193, 0, 23), (194, 3, 3), (195, 0, 167), (196, 3, 3), (197, 0, 35), (198, 3, 3), (199, 0, 71), (245, 0, 0)]
set_option maxRecDepth 100000 in
def zl271 : List ck_Oc := [(.inr (some (.inl (ck_one 1))), 245, ([], [(44, 8, 100044), (57, 8, 100057), (70, 8, 100070), (83, 8, 100083), (96, 8, 100096), (109, 8, 100109), (122, 8, 100122), (135, 8, 100135), (148, 8, 100148), (161, 8, 100161), (174, 8, 100174), (187, 8, 100187)], [])), (.inr (some (.inl (ck_one 0))), 245, ([], [(44, 8, 100044), (57, 8, 0), (70, 8, 100070), (83, 8, 100083), (96, 8, 100096), (109, 8, 100109), (122, 8, 100122), (135, 8, 100135), (148, 8, 100148), (161, 8, 100161), (174, 8, 100174), (187, 8, 100187)], [(245, 0, 0, ((-1), 98, [])), (42, 2, 2, (1, 12, [])), (42, 1, 1, (0, 11, [])), (57, 6, 6, (0, 299, [(10, 0)]))])), (.inr (some (.inl (ck_one 0))), 245, ([], [(44, 8, 100044), (57, 8, 100057), (70, 8, 0), (83, 8, 100083), (96, 8, 100096), (109, 8, 100109), (122, 8, 100122), (135, 8, 100135), (148, 8, 100148), (161, 8, 100161), (174, 8, 100174), (187, 8, 100187)], [(245, 0, 0, ((-1), 98, [])), (42, 2, 2, (1, 12, [])), (42, 1, 1, (0, 11, [])), (70, 6, 6, (0, 299, [(10, 0)]))])), (.inr (some (.inl (ck_one 0))), 245, ([], [(44, 8, 100044), (57, 8, 100057), (70, 8, 100070), (83, 8, 0), (96, 8, 100096), (109, 8, 100109), (122, 8, 100122), (135, 8, 100135), (148, 8, 100148), (161, 8, 100161), (174, 8, 100174), (187, 8, 100187)], [(245, 0, 0, ((-1), 98, [])), (42, 2, 2, (1, 12, [])), (42, 1, 1, (0, 11, [])), (83, 6, 6, (0, 299, [(10, 0)]))])), (.inr (some (.inl (ck_one 0))), 245, ([], [(44, 8, 100044), (57, 8, 100057), (70, 8, 100070), (83, 8, 100083), (96, 8, 0), (109, 8, 100109), (122, 8, 100122), (135, 8, 100135), (148, 8, 100148), (161, 8, 100161), (174, 8, 100174), (187, 8, 100187)], [(245, 0, 0, ((-1), 98, [])), (42, 2, 2, (1, 12, [])), (42, 1, 1, (0, 11, [])), (96, 6, 6, (0, 299, [(10, 0)]))])), (.inr (some (.inl (ck_one 0))), 245, ([], [(44, 8, 100044), (57, 8, 100057), (70, 8, 100070), (83, 8, 100083), (96, 8, 100096), (109, 8, 0), (122, 8, 100122), (135, 8, 100135), (148, 8, 100148), (161, 8, 100161), (174, 8, 100174), (187, 8, 100187)], [(245, 0, 0, ((-1), 98, [])), (42, 2, 2, (1, 12, [])), (42, 1, 1, (0, 11, [])), (109, 6, 6, (0, 299, [(10, 0)]))])), (.inr (some (.inl (ck_one 0))), 245, ([], [(44, 8, 100044), (57, 8, 100057), (70, 8, 100070), (83, 8, 100083), (96, 8, 100096), (109, 8, 100109), (122, 8, 0), (135, 8, 100135), (148, 8, 100148), (161, 8, 100161), (174, 8, 100174), (187, 8, 100187)], [(245, 0, 0, ((-1), 98, [])), (42, 2, 2, (1, 12, [])), (42, 1, 1, (0, 11, [])), (122, 6, 6, (0, 299, [(10, 0)]))])), (.inr (some (.inl (ck_one 0))), 245, ([], [(44, 8, 100044), (57, 8, 100057), (70, 8, 100070), (83, 8, 100083), (96, 8, 100096), (109, 8, 100109), (122, 8, 100122), (135, 8, 0), (148, 8, 100148), (161, 8, 100161), (174, 8, 100174), (187, 8, 100187)], [(245, 0, 0, ((-1), 98, [])), (42, 2, 2, (1, 12, [])), (42, 1, 1, (0, 11, [])), (135, 6, 6, (0, 299, [(10, 0)]))])), (.inr (some (.inl (ck_one 0))), 245, ([], [(44, 8, 100044), (57, 8, 100057), (70, 8, 100070), (83, 8, 100083), (96, 8, 100096), (109, 8, 100109), (122, 8, 100122), (135, 8, 100135), (148, 8, 0), (161, 8, 100161), (174, 8, 100174), (187, 8, 100187)], [(245, 0, 0, ((-1), 98, [])), (42, 2, 2, (1, 12, [])), (42, 1, 1, (0, 11, [])), (148, 6, 6, (0, 299, [(10, 0)]))])), (.inr (some (.inl (ck_one 0))), 245, ([], [(44, 8, 100044), (57, 8, 100057), (70, 8, 100070), (83, 8, 100083), (96, 8, 100096), (109, 8, 100109), (122, 8, 100122), (135, 8, 100135), (148, 8, 100148), (161, 8, 0), (174, 8, 100174), (187, 8, 100187)], [(245, 0, 0, ((-1), 98, [])), (42, 2, 2, (1, 12, [])), (42, 1, 1, (0, 11, [])), (161, 6, 6, (0, 299, [(10, 0)]))])), (.inr (some (.inl (ck_one 0))), 245, ([], [(44, 8, 100044), (57, 8, 100057), (70, 8, 100070), (83, 8, 100083), (96, 8, 100096), (109, 8, 100109), (122, 8, 100122), (135, 8, 100135), (148, 8, 100148), (161, 8, 100161), (174, 8, 0), (187, 8, 100187)], [(245, 0, 0, ((-1), 98, [])), (42, 2, 2, (1, 12, [])), (42, 1, 1, (0, 11, [])), (174, 6, 6, (0, 299, [(10, 0)]))])), (.inr (some (.inl (ck_one 0))), 245, ([], [(44, 8, 100044), (57, 8, 100057), (70, 8, 100070), (83, 8, 100083), (96, 8, 100096), (109, 8, 100109), (122, 8, 100122), (135, 8, 100135), (148, 8, 100148), (161, 8, 100161), (174, 8, 100174), (187, 8, 0)], [(245, 0, 0, ((-1), 98, [])), (42, 2, 2, (1, 12, [])), (42, 1, 1, (0, 11, [])), (187, 6, 6, (0, 299, [(10, 0)]))])), (.inr (some (.inl (ck_one 0))), 245, ([], [(44, 8, 0), (57, 8, 100057), (70, 8, 100070), (83, 8, 100083), (96, 8, 100096), (109, 8, 100109), (122, 8, 100122), (135, 8, 100135), (148, 8, 100148), (161, 8, 100161), (174, 8, 100174), (187, 8, 100187)], [(245, 0, 0, ((-1), 98, [])), (42, 2, 2, (1, 12, [])), (42, 1, 1, (0, 11, [])), (44, 6, 6, (0, 299, [(10, 0)]))])), (.inr (some (.inl (ck_one 0))), 245, ([], [(44, 8, 100044), (57, 8, 100057), (70, 8, 100070), (83, 8, 100083), (96, 8, 100096), (109, 8, 100109), (122, 8, 100122), (135, 8, 100135), (148, 8, 100148), (161, 8, 100161), (174, 8, 100174), (187, 8, 100187)], [(245, 0, 0, ((-1), 98, [])), (42, 2, 2, (1, 12, [])), (42, 1, 1, (0, 11, []))]))]
set_option maxRecDepth 100000 in
def zl272 : List ck_Oc := [(.inr (some (.inl (ck_one 1))), 245, ([], [(44, 8, 100044), (57, 8, 100057), (70, 8, 100070), (83, 8, 100083), (96, 8, 100096), (109, 8, 100109), (122, 8, 100122), (135, 8, 100135), (148, 8, 100148), (161, 8, 100161), (174, 8, 100174), (187, 8, 100187)], [])), (.inr (some (.inl (ck_one 0))), 245, ([], [(44, 8, 100044), (57, 8, 0), (70, 8, 100070), (83, 8, 100083), (96, 8, 100096), (109, 8, 100109), (122, 8, 100122), (135, 8, 100135), (148, 8, 100148), (161, 8, 100161), (174, 8, 100174), (187, 8, 100187)], [(245, 0, 0, ((-299), 300, [])), (14, 3, 3, (1, 24, [])), (42, 2, 2, (1, 12, [])), (42, 1, 1, (0, 11, [])), (57, 6, 6, (0, 299, [(10, 0)])), (1, 15, 15, ck_one 1)])), (.inr (some (.inl (ck_one 0))), 245, ([], [(44, 8, 100044), (57, 8, 100057), (70, 8, 0), (83, 8, 100083), (96, 8, 100096), (109, 8, 100109), (122, 8, 100122), (135, 8, 100135), (148, 8, 100148), (161, 8, 100161), (174, 8, 100174), (187, 8, 100187)], [(245, 0, 0, ((-299), 300, [])), (14, 3, 3, (1, 24, [])), (42, 2, 2, (1, 12, [])), (42, 1, 1, (0, 11, [])), (70, 6, 6, (0, 299, [(10, 0)])), (1, 15, 15, ck_one 1)])), (.inr (some (.inl (ck_one 0))), 245, ([], [(44, 8, 100044), (57, 8, 100057), (70, 8, 100070), (83, 8, 0), (96, 8, 100096), (109, 8, 100109), (122, 8, 100122), (135, 8, 100135), (148, 8, 100148), (161, 8, 100161), (174, 8, 100174), (187, 8, 100187)], [(245, 0, 0, ((-299), 300, [])), (14, 3, 3, (1, 24, [])), (42, 2, 2, (1, 12, [])), (42, 1, 1, (0, 11, [])), (83, 6, 6, (0, 299, [(10, 0)])), (1, 15, 15, ck_one 1)])), (.inr (some (.inl (ck_one 0))), 245, ([], [(44, 8, 100044), (57, 8, 100057), (70, 8, 100070), (83, 8, 100083), (96, 8, 0), (109, 8, 100109), (122, 8, 100122), (135, 8, 100135), (148, 8, 100148), (161, 8, 100161), (174, 8, 100174), (187, 8, 100187)], [(245, 0, 0, ((-299), 300, [])), (14, 3, 3, (1, 24, [])), (42, 2, 2, (1, 12, [])), (42, 1, 1, (0, 11, [])), (96, 6, 6, (0, 299, [(10, 0)])), (1, 15, 15, ck_one 1)])), (.inr (some (.inl (ck_one 0))), 245, ([], [(44, 8, 100044), (57, 8, 100057), (70, 8, 100070), (83, 8, 100083), (96, 8, 100096), (109, 8, 0), (122, 8, 100122), (135, 8, 100135), (148, 8, 100148), (161, 8, 100161), (174, 8, 100174), (187, 8, 100187)], [(245, 0, 0, ((-299), 300, [])), (14, 3, 3, (1, 24, [])), (42, 2, 2, (1, 12, [])), (42, 1, 1, (0, 11, [])), (109, 6, 6, (0, 299, [(10, 0)])), (1, 15, 15, ck_one 1)])), (.inr (some (.inl (ck_one 0))), 245, ([], [(44, 8, 100044), (57, 8, 100057), (70, 8, 100070), (83, 8, 100083), (96, 8, 100096), (109, 8, 100109), (122, 8, 0), (135, 8, 100135), (148, 8, 100148), (161, 8, 100161), (174, 8, 100174), (187, 8, 100187)], [(245, 0, 0, ((-299), 300, [])), (14, 3, 3, (1, 24, [])), (42, 2, 2, (1, 12, [])), (42, 1, 1, (0, 11, [])), (122, 6, 6, (0, 299, [(10, 0)])), (1, 15, 15, ck_one 1)])), (.inr (some (.inl (ck_one 0))), 245, ([], [(44, 8, 100044), (57, 8, 100057), (70, 8, 100070), (83, 8, 100083), (96, 8, 100096), (109, 8, 100109), (122, 8, 100122), (135, 8, 0), (148, 8, 100148), (161, 8, 100161), (174, 8, 100174), (187, 8, 100187)], [(245, 0, 0, ((-299), 300, [])), (14, 3, 3, (1, 24, [])), (42, 2, 2, (1, 12, [])), (42, 1, 1, (0, 11, [])), (135, 6, 6, (0, 299, [(10, 0)])), (1, 15, 15, ck_one 1)])), (.inr (some (.inl (ck_one 0))), 245, ([], [(44, 8, 100044), (57, 8, 100057), (70, 8, 100070), (83, 8, 100083), (96, 8, 100096), (109, 8, 100109), (122, 8, 100122), (135, 8, 100135), (148, 8, 0), (161, 8, 100161), (174, 8, 100174), (187, 8, 100187)], [(245, 0, 0, ((-299), 300, [])), (14, 3, 3, (1, 24, [])), (42, 2, 2, (1, 12, [])), (42, 1, 1, (0, 11, [])), (148, 6, 6, (0, 299, [(10, 0)])), (1, 15, 15, ck_one 1)])), (.inr (some (.inl (ck_one 0))), 245, ([], [(44, 8, 100044), (57, 8, 100057), (70, 8, 100070), (83, 8, 100083), (96, 8, 100096), (109, 8, 100109), (122, 8, 100122), (135, 8, 100135), (148, 8, 100148), (161, 8, 0), (174, 8, 100174), (187, 8, 100187)], [(245, 0, 0, ((-299), 300, [])), (14, 3, 3, (1, 24, [])), (42, 2, 2, (1, 12, [])), (42, 1, 1, (0, 11, [])), (161, 6, 6, (0, 299, [(10, 0)])), (1, 15, 15, ck_one 1)])), (.inr (some (.inl (ck_one 0))), 245, ([], [(44, 8, 100044), (57, 8, 100057), (70, 8, 100070), (83, 8, 100083), (96, 8, 100096), (109, 8, 100109), (122, 8, 100122), (135, 8, 100135), (148, 8, 100148), (161, 8, 100161), (174, 8, 0), (187, 8, 100187)], [(245, 0, 0, ((-299), 300, [])), (14, 3, 3, (1, 24, [])), (42, 2, 2, (1, 12, [])), (42, 1, 1, (0, 11, [])), (174, 6, 6, (0, 299, [(10, 0)])), (1, 15, 15, ck_one 1)])), (.inr (some (.inl (ck_one 0))), 245, ([], [(44, 8, 100044), (57, 8, 100057), (70, 8, 100070), (83, 8, 100083), (96, 8, 100096), (109, 8, 100109), (122, 8, 100122), (135, 8, 100135), (148, 8, 100148), (161, 8, 100161), (174, 8, 100174), (187, 8, 0)], [(245, 0, 0, ((-299), 300, [])), (14, 3, 3, (1, 24, [])), (42, 2, 2, (1, 12, [])), (42, 1, 1, (0, 11, [])), (187, 6, 6, (0, 299, [(10, 0)])), (1, 15, 15, ck_one 1)])), (.inr (some (.inl (ck_one 0))), 245, ([], [(44, 8, 0), (57, 8, 100057), (70, 8, 100070), (83, 8, 100083), (96, 8, 100096), (109, 8, 100109), (122, 8, 100122), (135, 8, 100135), (148, 8, 100148), (161, 8, 100161), (174, 8, 100174), (187, 8, 100187)], [(245, 0, 0, ((-299), 300, [])), (14, 3, 3, (1, 24, [])), (42, 2, 2, (1, 12, [])), (42, 1, 1, (0, 11, [])), (44, 6, 6, (0, 299, [(10, 0)])), (1, 15, 15, ck_one 1)])), (.inr (some (.inl (ck_one 0))), 245, ([], [(44, 8, 100044), (57, 8, 100057), (70, 8, 100070), (83, 8, 100083), (96, 8, 100096), (109, 8, 100109), (122, 8, 100122), (135, 8, 100135), (148, 8, 100148), (161, 8, 100161), (174, 8, 100174), (187, 8, 100187)], [(245, 0, 0, ((-299), 300, [])), (14, 3, 3, (1, 24, [])), (42, 2, 2, (1, 12, [])), (42, 1, 1, (0, 11, [])), (1, 15, 15, ck_one 1)])), (.inr (some (.inl (ck_one 2))), 245, ([], [(44, 8, 100044), (57, 8, 100057), (70, 8, 100070), (83, 8, 100083), (96, 8, 100096), (109, 8, 100109), (122, 8, 100122), (135, 8, 100135), (148, 8, 100148), (161, 8, 100161), (174, 8, 100174), (187, 8, 100187)], [(1, 15, 15, ck_one 1)]))]
set_option maxRecDepth 100000 in
def zl273 : List ck_Oc := [(.inr (some (.inl (ck_one 1))), 245, ([], [], [])), (.inr (some (.inl (ck_one 2))), 245, ([], [], [(3, 6, 6, (1, 299, [(10, 0)]))])), (.inr (some (.inl (ck_one 3))), 245, ([], [], []))]
set_option maxRecDepth 100000 in
def zl274 : List (Nat × Int × Int × ck_I) := [(245, 0, 0, ((-2147483648), 299, [])), (206, 4, 4, (0, 7, [])), (206, 2, 2, ((-1), 299, []))]
set_option maxRecDepth 100000 in
def zl275 : List (Nat × Int × Int) := [(206, 2, 8), (209, 3, 3), (210, 0, 2399), (211, 3, 3), (212, 0, 2399), (245, 0, 0)]
set_option maxRecDepth 100000 in
def zl276 : List (Nat × Int × Int × ck_I) := [(245, 0, 0, ((-1), 7, [])), (206, 4, 4, ck_one (-1))]
set_option maxRecDepth 100000 in
def zl277 : List ck_Oc := [(.inr (some (.inl (ck_one 1))), 245, ([], [], [])), (.inr (some (.inl (ck_one 0))), 245, ([], [], [(245, 0, 0, ((-1), 2398, [])), (206, 4, 4, ck_one (-1))])), (.inr (some (.inl (ck_one 2))), 245, ([], [], []))]
set_option maxRecDepth 100000 in
def zl281 : List ck_Oc := [(.inr (some (.inl (ck_one 1))), 249, ([], [(44, 8, 100044), (57, 8, 100057), (70, 8, 100070), (83, 8, 100083), (96, 8, 100096), (109, 8, 100109), (122, 8, 100122), (135, 8, 100135), (148, 8, 100148), (161, 8, 100161), (174, 8, 100174), (187, 8, 100187)], [])), (.inr (some (.inl (ck_one 0))), 249, ([], [(44, 8, 100044), (57, 8, 246), (70, 8, 100070), (83, 8, 100083), (96, 8, 100096), (109, 8, 100109), (122, 8, 100122), (135, 8, 100135), (148, 8, 100148), (161, 8, 100161), (174, 8, 100174), (187, 8, 100187)], [(245, 0, 0, ((-1), 98, [])), (42, 2, 2, (1, 12, [])), (42, 1, 1, (0, 11, [])), (57, 6, 6, (0, 299, [(10, 0)]))])), (.inr (some (.inl (ck_one 0))), 249, ([], [(44, 8, 100044), (57, 8, 100057), (70, 8, 246), (83, 8, 100083), (96, 8, 100096), (109, 8, 100109), (122, 8, 100122), (135, 8, 100135), (148, 8, 100148), (161, 8, 100161), (174, 8, 100174), (187, 8, 100187)], [(245, 0, 0, ((-1), 98, [])), (42, 2, 2, (1, 12, [])), (42, 1, 1, (0, 11, [])), (70, 6, 6, (0, 299, [(10, 0)]))])), (.inr (some (.inl (ck_one 0))), 249, ([], [(44, 8, 100044), (57, 8, 100057), (70, 8, 100070), (83, 8, 246), (96, 8, 100096), (109, 8, 100109), (122, 8, 100122), (135, 8, 100135), (148, 8, 100148), (161, 8, 100161), (174, 8, 100174), (187, 8, 100187)], [(245, 0, 0, ((-1), 98, [])), (42, 2, 2, (1, 12, [])), (42, 1, 1, (0, 11, [])), (83, 6, 6, (0, 299, [(10, 0)]))])), (.inr (some (.inl (ck_one 0))), 249, ([], [(44, 8, 100044), (57, 8, 100057), (70, 8, 100070), (83, 8, 100083), (96, 8, 246), (109, 8, 100109), (122, 8, 100122), (135, 8, 100135), (148, 8, 100148), (161, 8, 100161), (174, 8, 100174), (187, 8, 100187)], [(245, 0, 0, ((-1), 98, [])), (42, 2, 2, (1, 12, [])), (42, 1, 1, (0, 11, [])), (96, 6, 6, (0, 299, [(10, 0)]))])), (.inr (some (.inl (ck_one 0))), 249, ([], [(44, 8, 100044), (57, 8, 100057), (70, 8, 100070), (83, 8, 100083), (96, 8, 100096), (109, 8, 246), (122, 8, 100122), (135, 8, 100135), (148, 8, 100148), (161, 8, 100161), (174, 8, 100174), (187, 8, 100187)], [(245, 0, 0, ((-1), 98, [])), (42, 2, 2, (1, 12, [])), (42, 1, 1, (0, 11, [])), (109, 6, 6, (0, 299, [(10, 0)]))])), (.inr (some (.inl (ck_one 0))), 249, ([], [(44, 8, 100044), (57, 8, 100057), (70, 8, 100070), (83, 8, 100083), (96, 8, 100096), (109, 8, 100109), (122, 8, 246), (135, 8, 100135), (148, 8, 100148), (161, 8, 100161), (174, 8, 100174), (187, 8, 100187)], [(245, 0, 0, ((-1), 98, [])), (42, 2, 2, (1, 12, [])), (42, 1, 1, (0, 11, [])), (122, 6, 6, (0, 299, [(10, 0)]))])), (.inr (some (.inl (ck_one 0))), 249, ([], [(44, 8, 100044), (57, 8, 100057), (70, 8, 100070), (83, 8, 100083), (96, 8, 100096), (109, 8, 100109), (122, 8, 100122), (135, 8, 246), (148, 8, 100148), (161, 8, 100161), (174, 8, 100174), (187, 8, 100187)], [(245, 0, 0, ((-1), 98, [])), (42, 2, 2, (1, 12, [])), (42, 1, 1, (0, 11, [])), (135, 6, 6, (0, 299, [(10, 0)]))])), (.inr (some (.inl (ck_one 0))), 249, ([], [(44, 8, 100044), (57, 8, 100057), (70, 8, 100070), (83, 8, 100083), (96, 8, 100096), (109, 8, 100109), (122, 8, 100122), (135, 8, 100135), (148, 8, 246), (161, 8, 100161), (174, 8, 100174), (187, 8, 100187)], [(245, 0, 0, ((-1), 98, [])), (42, 2, 2, (1, 12, [])), (42, 1, 1, (0, 11, [])), (148, 6, 6, (0, 299, [(10, 0)]))])), (.inr (some (.inl (ck_one 0))), 249, ([], [(44, 8, 100044), (57, 8, 100057), (70, 8, 100070), (83, 8, 100083), (96, 8, 100096), (109, 8, 100109), (122, 8, 100122), (135, 8, 100135), (148, 8, 100148), (161, 8, 246), (174, 8, 100174), (187, 8, 100187)], [(245, 0, 0, ((-1), 98, [])), (42, 2, 2, (1, 12, [])), (42, 1, 1, (0, 11, [])), (161, 6, 6, (0, 299, [(10, 0)]))])), (.inr (some (.inl (ck_one 0))), 249, ([], [(44, 8, 100044), (57, 8, 100057), (70, 8, 100070), (83, 8, 100083), (96, 8, 100096), (109, 8, 100109), (122, 8, 100122), (135, 8, 100135), (148, 8, 100148), (161, 8, 100161), (174, 8, 246), (187, 8, 100187)], [(245, 0, 0, ((-1), 98, [])), (42, 2, 2, (1, 12, [])), (42, 1, 1, (0, 11, [])), (174, 6, 6, (0, 299, [(10, 0)]))])), (.inr (some (.inl (ck_one 0))), 249, ([], [(44, 8, 100044), (57, 8, 100057), (70, 8, 100070), (83, 8, 100083), (96, 8, 100096), (109, 8, 100109), (122, 8, 100122), (135, 8, 100135), (148, 8, 100148), (161, 8, 100161), (174, 8, 100174), (187, 8, 246)], [(245, 0, 0, ((-1), 98, [])), (42, 2, 2, (1, 12, [])), (42, 1, 1, (0, 11, [])), (187, 6, 6, (0, 299, [(10, 0)]))])), (.inr (some (.inl (ck_one 0))), 249, ([], [(44, 8, 246), (57, 8, 100057), (70, 8, 100070), (83, 8, 100083), (96, 8, 100096), (109, 8, 100109), (122, 8, 100122), (135, 8, 100135), (148, 8, 100148), (161, 8, 100161), (174, 8, 100174), (187, 8, 100187)], [(245, 0, 0, ((-1), 98, [])), (42, 2, 2, (1, 12, [])), (42, 1, 1, (0, 11, [])), (44, 6, 6, (0, 299, [(10, 0)]))])), (.inr (some (.inl (ck_one 0))), 249, ([], [(44, 8, 100044), (57, 8, 100057), (70, 8, 100070), (83, 8, 100083), (96, 8, 100096), (109, 8, 100109), (122, 8, 100122), (135, 8, 100135), (148, 8, 100148), (161, 8, 100161), (174, 8, 100174), (187, 8, 100187)], [(245, 0, 0, ((-1), 98, [])), (42, 2, 2, (1, 12, [])), (42, 1, 1, (0, 11, []))]))]
set_option maxRecDepth 100000 in
def zl282 : List ck_Oc := [(.inr (some (.inl (ck_one 1))), 249, ([], [(44, 8, 100044), (57, 8, 100057), (70, 8, 100070), (83, 8, 100083), (96, 8, 100096), (109, 8, 100109), (122, 8, 100122), (135, 8, 100135), (148, 8, 100148), (161, 8, 100161), (174, 8, 100174), (187, 8, 100187)], [])), (.inr (some (.inl (ck_one 0))), 249, ([], [(44, 8, 100044), (57, 8, 246), (70, 8, 100070), (83, 8, 100083), (96, 8, 100096), (109, 8, 100109), (122, 8, 100122), (135, 8, 100135), (148, 8, 100148), (161, 8, 100161), (174, 8, 100174), (187, 8, 100187)], [(245, 0, 0, ((-299), 300, [])), (14, 3, 3, (1, 24, [])), (42, 2, 2, (1, 12, [])), (42, 1, 1, (0, 11, [])), (57, 6, 6, (0, 299, [(10, 0)])), (1, 15, 15, ck_one 1)])), (.inr (some (.inl (ck_one 0))), 249, ([], [(44, 8, 100044), (57, 8, 100057), (70, 8, 246), (83, 8, 100083), (96, 8, 100096), (109, 8, 100109), (122, 8, 100122), (135, 8, 100135), (148, 8, 100148), (161, 8, 100161), (174, 8, 100174), (187, 8, 100187)], [(245, 0, 0, ((-299), 300, [])), (14, 3, 3, (1, 24, [])), (42, 2, 2, (1, 12, [])), (42, 1, 1, (0, 11, [])), (70, 6, 6, (0, 299, [(10, 0)])), (1, 15, 15, ck_one 1)])), (.inr (some (.inl (ck_one 0))), 249, ([], [(44, 8, 100044), (57, 8, 100057), (70, 8, 100070), (83, 8, 246), (96, 8, 100096), (109, 8, 100109), (122, 8, 100122), (135, 8, 100135), (148, 8, 100148), (161, 8, 100161), (174, 8, 100174), (187, 8, 100187)], [(245, 0, 0, ((-299), 300, [])), (14, 3, 3, (1, 24, [])), (42, 2, 2, (1, 12, [])), (42, 1, 1, (0, 11, [])), (83, 6, 6, (0, 299, [(10, 0)])), (1, 15, 15, ck_one 1)])), (.inr (some (.inl (ck_one 0))), 249, ([], [(44, 8, 100044), (57, 8, 100057), (70, 8, 100070), (83, 8, 100083), (96, 8, 246), (109, 8, 100109), (122, 8, 100122), (135, 8, 100135), (148, 8, 100148), (161, 8, 100161), (174, 8, 100174), (187, 8, 100187)], [(245, 0, 0, ((-299), 300, [])), (14, 3, 3, (1, 24, [])), (42, 2, 2, (1, 12, [])), (42, 1, 1, (0, 11, [])), (96, 6, 6, (0, 299, [(10, 0)])), (1, 15, 15, ck_one 1)])), (.inr (some (.inl (ck_one 0))), 249, ([], [(44, 8, 100044), (57, 8, 100057), (70, 8, 100070), (83, 8, 100083), (96, 8, 100096), (109, 8, 246), (122, 8, 100122), (135, 8, 100135), (148, 8, 100148), (161, 8, 100161), (174, 8, 100174), (187, 8, 100187)], [(245, 0, 0, ((-299), 300, [])), (14, 3, 3, (1, 24, [])), (42, 2, 2, (1, 12, [])), (42, 1, 1, (0, 11, [])), (109, 6, 6, (0, 299, [(10, 0)])), (1, 15, 15, ck_one 1)])), (.inr (some (.inl (ck_one 0))), 249, ([], [(44, 8, 100044), (57, 8, 100057), (70, 8, 100070), (83, 8, 100083), (96, 8, 100096), (109, 8, 100109), (122, 8, 246), (135, 8, 100135), (148, 8, 100148), (161, 8, 100161), (174, 8, 100174), (187, 8, 100187)], [(245, 0, 0, ((-299), 300, [])), (14, 3, 3, (1, 24, [])), (42, 2, 2, (1, 12, [])), (42, 1, 1, (0, 11, [])), (122, 6, 6, (0, 299, [(10, 0)])), (1, 15, 15, ck_one 1)])), (.inr (some (.inl (ck_one 0))), 249, ([], [(44, 8, 100044), (57, 8, 100057), (70, 8, 100070), (83, 8, 100083), (96, 8, 100096), (109, 8, 100109), (122, 8, 100122), (135, 8, 246), (148, 8, 100148), (161, 8, 100161), (174, 8, 100174), (187, 8, 100187)], [(245, 0, 0, ((-299), 300, [])), (14, 3, 3, (1, 24, [])), (42, 2, 2, (1, 12, [])), (42, 1, 1, (0, 11, [])), (135, 6, 6, (0, 299, [(10, 0)])), (1, 15, 15, ck_one 1)])), (.inr (some (.inl (ck_one 0))), 249, ([], [(44, 8, 100044), (57, 8, 100057), (70, 8, 100070), (83, 8, 100083), (96, 8, 100096), (109, 8, 100109), (122, 8, 100122), (135, 8, 100135), (148, 8, 246), (161, 8, 100161), (174, 8, 100174), (187, 8, 100187)], [(245, 0, 0, ((-299), 300, [])), (14, 3, 3, (1, 24, [])), (42, 2, 2, (1, 12, [])), (42, 1, 1, (0, 11, [])), (148, 6, 6, (0, 299, [(10, 0)])), (1, 15, 15, ck_one 1)])), (.inr (some (.inl (ck_one 0))), 249, ([], [(44, 8, 100044), (57, 8, 100057), (70, 8, 100070), (83, 8, 100083), (96, 8, 100096), (109, 8, 100109), (122, 8, 100122), (135, 8, 100135), (148, 8, 100148), (161, 8, 246), (174, 8, 100174), (187, 8, 100187)], [(245, 0, 0, ((-299), 300, [])), (14, 3, 3, (1, 24, [])), (42, 2, 2, (1, 12, [])), (42, 1, 1, (0, 11, [])), (161, 6, 6, (0, 299, [(10, 0)])), (1, 15, 15, ck_one 1)])), (.inr (some (.inl (ck_one 0))), 249, ([], [(44, 8, 100044), (57, 8, 100057), (70, 8, 100070), (83, 8, 100083), (96, 8, 100096), (109, 8, 100109), (122, 8, 100122), (135, 8, 100135), (148, 8, 100148), (161, 8, 100161), (174, 8, 246), (187, 8, 100187)], [(245, 0, 0, ((-299), 300, [])), (14, 3, 3, (1, 24, [])), (42, 2, 2, (1, 12, [])), (42, 1, 1, (0, 11, [])), (174, 6, 6, (0, 299, [(10, 0)])), (1, 15, 15, ck_one 1)])), (.inr (some (.inl (ck_one 0))), 249, ([], [(44, 8, 100044), (57, 8, 100057), (70, 8, 100070), (83, 8, 100083), (96, 8, 100096), (109, 8, 100109), (122, 8, 100122), (135, 8, 100135), (148, 8, 100148), (161, 8, 100161), (174, 8, 100174), (187, 8, 246)], [(245, 0, 0, ((-299), 300, [])), (14, 3, 3, (1, 24, [])), (42, 2, 2, (1, 12, [])), (42, 1, 1, (0, 11, [])), (187, 6, 6, (0, 299, [(10, 0)])), (1, 15, 15, ck_one 1)])), (.inr (some (.inl (ck_one 0))), 249, ([], [(44, 8, 246), (57, 8, 100057), (70, 8, 100070), (83, 8, 100083), (96, 8, 100096), (109, 8, 100109), (122, 8, 100122), (135, 8, 100135), (148, 8, 100148), (161, 8, 100161), (174, 8, 100174), (187, 8, 100187)], [(245, 0, 0, ((-299), 300, [])), (14, 3, 3, (1, 24, [])), (42, 2, 2, (1, 12, [])), (42, 1, 1, (0, 11, [])), (44, 6, 6, (0, 299, [(10, 0)])), (1, 15, 15, ck_one 1)])), (.inr (some (.inl (ck_one 0))), 249, ([], [(44, 8, 100044), (57, 8, 100057), (70, 8, 100070), (83, 8, 100083), (96, 8, 100096), (109, 8, 100109), (122, 8, 100122), (135, 8, 100135), (148, 8, 100148), (161, 8, 100161), (174, 8, 100174), (187, 8, 100187)], [(245, 0, 0, ((-299), 300, [])), (14, 3, 3, (1, 24, [])), (42, 2, 2, (1, 12, [])), (42, 1, 1, (0, 11, [])), (1, 15, 15, ck_one 1)])), (.inr (some (.inl (ck_one 2))), 249, ([], [(44, 8, 100044), (57, 8, 100057), (70, 8, 100070), (83, 8, 100083), (96, 8, 100096), (109, 8, 100109), (122, 8, 100122), (135, 8, 100135), (148, 8, 100148), (161, 8, 100161), (174, 8, 100174), (187, 8, 100187)], [(1, 15, 15, ck_one 1)]))]
set_option maxRecDepth 100000 in
def zl283 : List ck_Oc := [(.inr (some (.inl (ck_one 1))), 249, ([], [], [])), (.inr (some (.inl (ck_one 2))), 249, ([], [], [(3, 6, 6, (1, 299, [(10, 0)]))])), (.inr (some (.inl (ck_one 3))), 249, ([], [], []))]
end
