/-! THE LAW'S START, laid by wip/am/gen28.py: classes, array classes, strings and statics as the tables have them; from the judgement of its body to the law's end. -/
noncomputable def gm_kni : List (Nat × List Nat) := [(184, [542, 544, 546, 548, 550, 552, 554, 556, 558, 560, 562, 564, 566, 568, 570, 572, 574, 576]), (192, [276, 278, 280, 282, 284, 286, 288, 290, 292, 294, 296, 298, 300, 302, 304]), (198, [207, 209, 211, 213]), (308, [319, 321, 323]), (327, [370, 372, 374, 376, 378, 380, 382]), (387, [405, 407, 409, 411, 413, 415, 417, 419, 421]), (425, [436, 438, 440, 442]), (446, [497, 499, 495]), (455, [471, 473, 475, 477, 479, 481, 483, 485]), (503, [519, 520, 513, 515, 517]), (679, [1193, 1195]), (1679, [1728, 1730, 1732, 1734, 1736, 1738, 1740, 1742, 1744, 1746, 1748, 1750, 1752, 1754, 1756, 1758, 1760, 1762, 1764, 1766, 1768, 1770, 1772, 1774, 1776, 1778, 1780, 1782, 1784, 1786, 1788, 1790, 1792, 1794, 1796, 1798, 1800, 1802, 1804])]
theorem gm_kni_ok : (List.range 12).all (fun c => match gm_cs[c]?, gm_kni[c]? with
  | some q, some r => decide (gm_tb (r.1) = some (.instantiable q.1 q.2.2)) && decide ((u_ws q.1 q.2.1 q.2.2).map some = r.2.map (fun i => gm_tb i))
  | _, _ => false) = true := by decide +kernel
noncomputable def gm_stp : List Nat := [855, 908, 909, 920, 934, 943, 944, 953, 954, 955, 956, 957, 958, 959, 960, 961, 962, 971, 985, 990, 1007, 1016, 1022, 1027, 1032, 1037, 1046, 1048, 1059, 1113, 1148, 1165, 1209, 1236, 1281, 1309, 1340, 1342, 1373, 1391, 1415, 1416, 1436, 1494, 1535, 1577, 1673, 1863, 1894, 1899, 1916, 1925, 1930, 1939, 1948, 1953, 1966, 1971, 1972, 1977, 1978, 1979, 1980, 1997, 2002, 2003, 2012, 2013, 2014, 2015, 2016, 2017, 2018, 2019, 2020]
theorem gm_stp_ok : (List.range 75).all (fun i => match gm_sr_[i]?, gm_stp[i]? with
  | some q, some r => decide (gm_tb (r) = some (.stringRef q.1 q.2.1 q.2.2.1)) && decide (q.2.2.2 = i)
  | _, _ => false) = true := by decide +kernel
theorem gm_sl_len : gm_sl.length = 75 ∧ gm_sr_.length = 75 := by decide +kernel
theorem gm_sl_sm : gm_sl.all (fun k => decide (k < 100)) = true := by decide +kernel
/-- the other words -/
noncomputable def gm_wst : List Jvm.Cond := [.castable "[I" "java/lang/Cloneable", .arrayOver (.object "GlacierMail$State"), .arrayClass .int, .arrayClass .byte, .arrayClass .long, .laysStatic "java/lang/Throwable" "UNASSIGNED_STACK" "[Ljava/lang/StackTraceElement;", .laysStatic "java/lang/Throwable" "SUPPRESSED_SENTINEL" "Ljava/util/List;", .initialized "java/lang/Throwable", .laysStatic "java/lang/String" "COMPACT_STRINGS" "Z", .initialized "java/lang/String", .laysStatic "jdk/internal/util/Preconditions" "SIOOBE_FORMATTER" "Ljava/util/function/BiFunction;", .initialized "jdk/internal/util/Preconditions"] ++ ((List.range 5).map (fun x => .castable (gm_xn x) (gm_xn x)) ++ (gm_dcs.map (fun y => .declares y) ++ gm_nst.map (fun q => .methodLinkNest q.1 q.2.1 q.2.2.1 q.2.2.2)))
theorem gm_wst_ok : gm_wst.all (fun w => gm_mem w) = true := by decide +kernel
/-- what the Statement gives of a string -/
noncomputable def gm_swd (q : String × Nat × String × Nat) : List Jvm.Cond := [.exactly (.string q.1 q.2.1) "java/lang/String", .eq (.field (.string q.1 q.2.1) "java/lang/String" "coder" "B") (.int 0), .arrayOf (.field (.string q.1 q.2.1) "java/lang/String" "value" "[B") .byte, .eq (.length (.field (.string q.1 q.2.1) "java/lang/String" "value" "[B")) (.int (Int32.ofNat (gm_sl.getD q.2.2.2 0)))] ++ (List.range (gm_sl.getD q.2.2.2 0)).map (fun j => .eq (.elem (.field (.string q.1 q.2.1) "java/lang/String" "value" "[B") (.int (Int32.ofNat j))) (.int ((gm_sb.getD q.2.2.2 []).getD j 0)))
/-- the one list lies in the other, in its order -/
noncomputable def gm_ssq : List Jvm.Cond → List Jvm.Cond → Bool
  | [], _ => true
  | _ :: _, [] => false
  | w :: ws, v :: vs => if w = v then gm_ssq ws vs else gm_ssq (w :: ws) vs
theorem gm_ssq_s : ∀ (vs ws : List Jvm.Cond), gm_ssq ws vs = true → ∀ w ∈ ws, w ∈ vs := by
  intro vs
  induction vs with
  | nil => intro ws h w hw; cases ws with
    | nil => exact hw
    | cons a b => cases h
  | cons v vs ih =>
    intro ws h w hw
    cases ws with
    | nil => cases hw
    | cons a b =>
      unfold gm_ssq at h
      split at h
      · rename_i e
        rcases List.mem_cons.mp hw with rfl | hw
        · rw [e]; exact List.mem_cons_self
        · exact List.mem_cons_of_mem _ (ih b h w hw)
      · exact List.mem_cons_of_mem _ (ih (a :: b) h w hw)
noncomputable def gm_nrw : List Jvm.Cond := [.eq (.static "java/lang/String" "COMPACT_STRINGS" "Z") (.int 1), .isRef (.static "jdk/internal/util/Preconditions" "SIOOBE_FORMATTER" "Ljava/util/function/BiFunction;"), .isRef (.static "java/lang/Throwable" "UNASSIGNED_STACK" "[Ljava/lang/StackTraceElement;"), .isRef (.static "java/lang/Throwable" "SUPPRESSED_SENTINEL" "Ljava/util/List;")] ++ gm_sr_.flatMap gm_swd
noncomputable def gm_flt : List Jvm.Cond := flatC (Jvm.Cond.and given_1 narrow_1)
set_option maxRecDepth 100000 in
theorem gm_nrw_ok : gm_ssq gm_nrw gm_flt = true := by decide +kernel
/-- what isn't caught by another's name -/
noncomputable def gm_ncs : List Jvm.Cond := (List.range 5).flatMap fun x => ((List.range 5).filter (fun y => !(x == y))).map fun y => .not (.castable (gm_xn x) (gm_xn y))
set_option maxRecDepth 100000 in
theorem gm_ncs_ok : gm_ncs.all (fun w => gm_flt.any (fun v => decide (w = v))) = true := by decide +kernel
section ST
variable {p : Program} {e : Env} {s : State} {m : MethodId} {below : List Frame} {meth : Method} {c : Code}
theorem gm_known {args : Array Value} (hts : ∀ w ∈ lw_tbl, w.before args s = true) : ∃ D : va_G, ∀ (c : Nat) (q : vw_C), gm_cs[c]? = some q → u_Kn s q.1 q.2.1 q.2.2 (D.1 c) (D.2 c) := by
  have h0 : ∀ c : Nat, ∃ z : ClassId × (Nat → Nat), ∀ q : vw_C, gm_cs[c]? = some q → u_Kn s q.1 q.2.1 q.2.2 z.1 z.2 := by
    intro c
    by_cases hc : c < 12
    · have h1 := List.all_eq_true.mp gm_kni_ok c (List.mem_range.mpr hc)
      cases hq : gm_cs[c]? with
      | none => rw [hq] at h1; cases h1
      | some q =>
        cases hr : gm_kni[c]? with
        | none => rw [hq, hr] at h1; cases h1
        | some r =>
          rw [hq, hr] at h1
          simp only [Bool.and_eq_true, decide_eq_true_eq] at h1
          obtain ⟨cC, iS, h⟩ := u_known (n := q.2.2) (C := q.1) (T := q.2.1) (N := q.2.2) hts (fun w hw => by
            have h2 : some w ∈ r.2.map (fun i => gm_tb i) := by rw [← h1.2]; exact List.mem_map_of_mem hw
            obtain ⟨i, -, h3⟩ := List.mem_map.mp h2
            exact gm_tb_in h3) (hts _ (gm_tb_in h1.1))
          exact ⟨(cC, iS), fun q' e => by cases e; exact h⟩
    · refine ⟨(0, fun _ => 0), fun q hq => absurd ?_ hc⟩
      exact (List.getElem?_eq_some_iff.mp hq).1
  obtain ⟨f, hf⟩ := Classical.axiomOfChoice h0
  exact ⟨(fun c => (f c).1, fun c => (f c).2), fun c q h => hf c q h⟩
theorem gm_arrA {args : Array Value} {ty : FieldType} (h : (Jvm.Cond.arrayClass ty).before args s = true) (hty : ∀ C, ty ≠ .object C) : ∃ cA : ClassId, ArrOfT s cA ty ∧ va_RA s cA ty := by
  obtain ⟨cA, kA, comp, h1, h2, h3⟩ := Cond.arrayClass_spec h
  refine ⟨cA, fun n z => ⟨fun k h => (by cases h), kA, h2, comp, h3⟩, ?_⟩
  cases ty with
  | object C => exact absurd rfl (hty C)
  | _ => exact h1
theorem gm_arrO {args : Array Value} {C : String} (h : (Jvm.Cond.arrayOver (.object C)).before args s = true) : ∃ cA : ClassId, ArrOfT s cA (.object C) ∧ va_RA s cA (.object C) := by
  obtain ⟨comp, cA, kA, h1, h2, h3, h4, h5⟩ := Cond.arrayOver_spec h
  exact ⟨cA, fun n z => ⟨fun k h => (by cases h), kA, h3, comp, h4⟩, kA, comp, h3, h4, h1, h5⟩
theorem gm_strs {args : Array Value} {A : Nat → Prop} (hts : ∀ w ∈ lw_tbl, w.before args s = true) (hg : ∀ w ∈ gm_flt, w.before args s = true) (hA : ∀ a : Nat, a < s.heap.size → ¬ A a) :
    ∃ adK adV : Nat → Nat, (∀ i, i < gm_sl.length → vk_S 1 [gm_sl.getD i 0] [gm_sb.getD i []] (fun _ => adK i) (fun _ => adV i) A s s.heap) ∧ ∀ q ∈ gm_sr_, vk_R q.1 q.2.1 q.2.2.1 (adK q.2.2.2) s := by
  have hn : ∀ q ∈ gm_sr_, ∀ w ∈ gm_swd q, w.before args s = true := fun q hq w hw => hg w (gm_ssq_s _ _ gm_nrw_ok w (List.mem_append.mpr (Or.inr (List.mem_flatMap.mpr ⟨q, hq, hw⟩))))
  have h0 : ∀ i : Nat, ∃ z : Nat × Nat, ∀ q, gm_sr_[i]? = some q → vk_S 1 [gm_sl.getD i 0] [gm_sb.getD i []] (fun _ => z.1) (fun _ => z.2) A s s.heap ∧ vk_R q.1 q.2.1 q.2.2.1 z.1 s := by
    intro i
    by_cases hi : i < 75
    · have h1 := List.all_eq_true.mp gm_stp_ok i (List.mem_range.mpr hi)
      cases hq : gm_sr_[i]? with
      | none => rw [hq] at h1; cases h1
      | some q =>
        cases hr : gm_stp[i]? with
        | none => rw [hq, hr] at h1; cases h1
        | some r =>
          rw [hq, hr] at h1
          simp only [Bool.and_eq_true, decide_eq_true_eq] at h1
          obtain ⟨h1, hqi⟩ := h1
          have hw := hn q (List.mem_of_getElem? hq)
          have hlen : gm_sl.getD i 0 < 100 := by
            have h2 : i < gm_sl.length := by rw [gm_sl_len.1]; exact hi
            have h3 := List.all_eq_true.mp gm_sl_sm (gm_sl[i]) (List.getElem_mem h2)
            rw [List.getD_eq_getElem?_getD, List.getElem?_eq_getElem h2]
            simpa using h3
          have w1 : ∀ w ∈ [Jvm.Cond.exactly (.string q.1 q.2.1) "java/lang/String", .eq (.field (.string q.1 q.2.1) "java/lang/String" "coder" "B") (.int 0), .arrayOf (.field (.string q.1 q.2.1) "java/lang/String" "value" "[B") .byte, .eq (.length (.field (.string q.1 q.2.1) "java/lang/String" "value" "[B")) (.int (Int32.ofNat (gm_sl.getD i 0)))], w.before args s = true := fun w hm => hw w (by unfold gm_swd; rw [hqi]; exact List.mem_append.mpr (Or.inl hm))
          have w2 : ∀ j, j < gm_sl.getD i 0 → (Jvm.Cond.eq (.elem (.field (.string q.1 q.2.1) "java/lang/String" "value" "[B") (.int (Int32.ofNat j))) (.int ((gm_sb.getD i []).getD j 0))).before args s = true := fun j hj => hw _ (by unfold gm_swd; rw [hqi]; exact List.mem_append.mpr (Or.inr (List.mem_map.mpr ⟨j, List.mem_range.mpr hj, rfl⟩)))
          obtain ⟨adK, adV, g1, g2⟩ := vk_Sof (args := args) (s := s) (N := 1) (tm := fun _ => .string q.1 q.2.1) (len := [gm_sl.getD i 0]) (byt := [gm_sb.getD i []]) (A := A)
            (fun k hk => by obtain rfl : k = 0 := by omega
                            show gm_sl.getD i 0 < 2 ^ 31
                            omega)
            (fun _ _ => w1 _ List.mem_cons_self) (fun _ _ => w1 _ (List.mem_cons_of_mem _ List.mem_cons_self)) (fun _ _ => w1 _ (List.mem_cons_of_mem _ (List.mem_cons_of_mem _ List.mem_cons_self)))
            (fun k hk => by obtain rfl : k = 0 := by omega
                            exact w1 _ (List.mem_cons_of_mem _ (List.mem_cons_of_mem _ (List.mem_cons_of_mem _ List.mem_cons_self))))
            (fun k hk j hj => by obtain rfl : k = 0 := by omega
                                 exact w2 j hj)
            (fun a b ha hb hab => absurd (show a = b by omega) hab) hA
          refine ⟨(adK 0, adV 0), fun q' e => ?_⟩
          cases e
          refine ⟨⟨fun k hk => ?_, fun a b ha hb _ => by omega⟩, vk_R.of (hts _ (gm_tb_in h1)) (g2 0 (by omega))⟩
          obtain rfl : k = 0 := by omega
          exact g1.1 0 hk
    · refine ⟨(0, 0), fun q hq => absurd ?_ hi⟩
      rw [← gm_sl_len.2]
      exact (List.getElem?_eq_some_iff.mp hq).1
  obtain ⟨f, hf⟩ := Classical.axiomOfChoice h0
  refine ⟨fun i => (f i).1, fun i => (f i).2, fun i hi => ?_, fun q hq => ?_⟩
  · rw [gm_sl_len.1, ← gm_sl_len.2] at hi
    exact (hf i _ (List.getElem?_eq_getElem hi)).1
  · obtain ⟨i, hi⟩ := List.getElem?_of_mem hq
    have h1 := (hf i q hi).2
    have h2 : i < 75 := by rw [← gm_sl_len.2]; exact (List.getElem?_eq_some_iff.mp hi).1
    have h3 := List.all_eq_true.mp gm_stp_ok i (List.mem_range.mpr h2)
    rw [hi] at h3
    cases hr : gm_stp[i]? with
    | none => rw [hr] at h3; cases h3
    | some r =>
      rw [hr] at h3
      simp only [Bool.and_eq_true, decide_eq_true_eq] at h3
      show vk_R q.1 q.2.1 q.2.2.1 (f q.2.2.2).1 s
      rw [h3.2]
      exact h1
noncomputable def R_law : String := "GlacierMailLaw"
noncomputable def lw_P (b : Addr) (xs : List Int32) (args : Array Value) (s : State) : Prop := args = #[.ref b] ∧ s.IntsAt b xs ∧ xs.length ≤ 3072 ∧ (Jvm.Cond.and given_1 narrow_1).before args s = true
noncomputable def lw_Q (_ : Array Value) (s : State) (o : Outcome) (t : State) : Prop := o = .returned (some (.int 1)) ∧ Framed s o t [] 601024 7293034
noncomputable def lw_Z (below : List Frame) (a : Array Value) (s : State) : State → Prop := fun t => ∃ o, t.status = .running ∧ Ended t below o ∧ lw_Q a s o t
/-- what is owed of the law's body, over the abstract machine -/
noncomputable def gm_Law : Prop := ∀ (X : Int → Int) (LX : Nat), LX ≤ 3072 → (∀ j, gm_ir (X j)) → gm_Wp X LX 280 601024 7293034 370 0 (gm_ent 370 [gm_vo 2000]) [] 0 (fun _ => (0, 0)) (fun _ _ => 0) (fun _ _ => 0) (fun o _ _ _ _ => o = .inl (some (gm_vi 1)))
theorem gm_frame {L : List Loc} {o : Outcome} {t : State} {k n : Nat} (h : FrameEnd s o t L k n) (hL : ∀ q ∈ L, s.heap.size ≤ q.base) : Framed s o t [] k n := by
  obtain ⟨h1, h2, h3, h4, h5, h6, h7, h8⟩ := h
  refine ⟨h1, h2, h3, h4, h5, h6, h7, fun a c ha => ?_⟩
  obtain ⟨c', g1, g2, g3, g4⟩ := h8 a c ha
  refine ⟨c', g1, g2, g3, fun i _ => g4 i fun hm => ?_⟩
  have g5 : s.heap.size ≤ a := hL _ hm
  have g6 : a < s.heap.size := (Array.getElem?_eq_some_iff.mp ha).1
  exact absurd g5 (Nat.not_le.mpr g6)
set_option maxHeartbeats 4000000 in
theorem gm_start (l : Launch) (hflags : l.flags = flags0) {b L : Nat} {xs : Nat → Int32} (hL : L ≤ 3072) (hW : gm_Law)
    (hexec : p.tables.exec = Jvm.exec) (hb : c.code = code) (hr : meth.sig.returnType = ret) (hml : c.maxLocals = 7) (hown : s.vm.findClass R_law = some m.cls) (hts : ∀ w ∈ lw_tbl, w.before #[Value.ref b] s = true) (hX : va_X b L xs s s.heap) (hbl : b < s.heap.size) (hlk : meth.locks = false) (hgv : (Jvm.Cond.and given_1 narrow_1).before #[Value.ref b] s = true) (hnm : meth.name = "law") (htab : c.exceptionTable.toList = []) :
    W p l e room_1 s m #[Value.ref b] below meth c s.heap [] 0 0 (lw_Z below #[Value.ref b] s) (entryFrame m ([Value.ref b] : List Value).toArray 7) := by
  have hg : ∀ w ∈ gm_flt, w.before #[Value.ref b] s = true := flat_of_before _ hgv
  have hst : ∀ w ∈ gm_wst, w.before #[Value.ref b] s = true := fun w hw => hts w (gm_mem_in (List.all_eq_true.mp gm_wst_ok w hw))
  have hnr : ∀ w ∈ gm_nrw, w.before #[Value.ref b] s = true := fun w hw => hg w (gm_ssq_s _ _ gm_nrw_ok w hw)
  obtain ⟨D, hD⟩ := gm_known hts
  obtain ⟨t0, a0, b0⟩ := gm_arrA (ty := .int) (hst _ (by decide +kernel)) (fun _ h => by cases h)
  obtain ⟨t1, a1, b1⟩ := gm_arrA (ty := .byte) (hst _ (by decide +kernel)) (fun _ h => by cases h)
  obtain ⟨t2, a2, b2⟩ := gm_arrA (ty := .long) (hst _ (by decide +kernel)) (fun _ h => by cases h)
  obtain ⟨t3, a3, b3⟩ := gm_arrO (C := "GlacierMail$State") (hst _ (by decide +kernel))
  obtain ⟨A, hA⟩ : ∃ A : Nat → Prop, A = fun q => s.heap.size ≤ q := ⟨_, rfl⟩
  have hA0 : ∀ a : Nat, a < s.heap.size → ¬ A a := fun a ha h => by rw [hA] at h; have h : s.heap.size ≤ a := h; omega
  obtain ⟨adK, adV, hS1, hS2⟩ := gm_strs hts hg hA0
  have hlt : gm_sl.length ≤ 2000 := by rw [gm_sl_len.1]; decide
  obtain ⟨aK, k0, k1, k2⟩ : ∃ aK : Nat → Nat, aK 2000 = b ∧ (∀ i, i < 75 → aK i = adK i) ∧ ∀ i, i < 75 → aK (1000 + i) = adV i := ⟨fun i => if i = 2000 then b else if 1000 ≤ i then adV (i - 1000) else adK i, if_pos rfl, fun i hi => (if_neg (by omega)).trans (if_neg (by omega)), fun i hi => (if_neg (by omega)).trans ((if_pos (by omega)).trans (by rw [Nat.add_sub_cancel_left]))⟩
  have hev : gm_Ev (fun j => (xs j.toNat).toInt) L aK adV A s := by
    refine ⟨fun i hi => ?_, fun q hq => ?_, vx_Zqof (hst _ (by decide +kernel)) (hst _ (by decide +kernel)) (hnr _ (by decide +kernel)) hA0, vx_Zqof (hst _ (by decide +kernel)) (hst _ (by decide +kernel)) (hnr _ (by decide +kernel)) hA0, ⟨va_Zof (hst _ (by decide +kernel)) (hst _ (by decide +kernel)) (va_eqt (hnr _ (by decide +kernel))) hA0, va_Zqof (hst _ (by decide +kernel)) (hst _ (by decide +kernel)) (hnr _ (by decide +kernel)) hA0, fun i hi => k2 i (Nat.lt_of_lt_of_eq hi gm_sl_len.1)⟩, ?_, by (rw [k0]; exact hbl), by (rw [k0]; exact hA0 _ hbl), va_AO.of (hst _ (by decide +kernel)), fun q hq => ?_, ?_, fun x y hx hy => ?_, fun y hy => ?_⟩
    · have h1 : aK i = adK i := k1 i (Nat.lt_of_lt_of_eq hi gm_sl_len.1)
      simp only [h1]
      exact hS1 i hi
    · obtain ⟨i, hi⟩ := List.getElem?_of_mem hq
      have h2 : i < 75 := by rw [← gm_sl_len.2]; exact (List.getElem?_eq_some_iff.mp hi).1
      have h3 := List.all_eq_true.mp gm_stp_ok i (List.mem_range.mpr h2)
      rw [hi] at h3
      have h4 : q.2.2.2 = i := by
        cases hr : gm_stp[i]? with
        | none => rw [hr] at h3; cases h3
        | some r => rw [hr] at h3; simp only [Bool.and_eq_true, decide_eq_true_eq] at h3; exact h3.2
      have h1 : aK q.2.2.2 = adK q.2.2.2 := k1 _ (by rw [h4]; exact h2)
      simp only [h1]
      exact hS2 q hq
    · have h2 : (fun j : Nat => Int32.ofInt ((fun j : Int => (xs j.toNat).toInt) (j : Int))) = xs := by
        funext j
        show Int32.ofInt (xs (Int.toNat (j : Int))).toInt = xs j
        rw [Int32.ofInt_toInt, Int.toNat_natCast]
      simp only [k0]
      rw [h2]
      exact hX
    · have h1 : Jvm.Cond.methodLinkNest q.1 q.2.1 q.2.2.1 q.2.2.2 ∈ gm_wst := List.mem_append.mpr (Or.inr (List.mem_append.mpr (Or.inr (List.mem_append.mpr (Or.inr (List.mem_map.mpr ⟨q, hq, rfl⟩))))))
      exact va_tabs (U := s) rfl rfl (hst _ h1)
    · exact va_tabs (U := s) rfl rfl (hst (.castable "[I" "java/lang/Cloneable") (by decide +kernel))
    · by_cases hxy : x = y
      · rw [if_pos hxy, ← hxy]
        have h1 : Jvm.Cond.castable (gm_xn x) (gm_xn x) ∈ gm_wst := List.mem_append.mpr (Or.inr (List.mem_append.mpr (Or.inl (List.mem_map.mpr ⟨x, List.mem_range.mpr hx, rfl⟩))))
        exact va_tabs (U := s) rfl rfl (hst _ h1)
      · rw [if_neg hxy]
        have h1 : Jvm.Cond.not (.castable (gm_xn x) (gm_xn y)) ∈ gm_ncs := List.mem_flatMap.mpr ⟨x, List.mem_range.mpr hx, List.mem_map.mpr ⟨y, List.mem_filter.mpr ⟨List.mem_range.mpr hy, by simpa using hxy⟩, rfl⟩⟩
        obtain ⟨v, hv, h2⟩ := List.any_eq_true.mp (List.all_eq_true.mp gm_ncs_ok _ h1)
        have h3 : Jvm.Cond.not (.castable (gm_xn x) (gm_xn y)) = v := of_decide_eq_true h2
        exact va_Nc.of (args := #[Value.ref b]) (h3 ▸ hg v hv)
    · have h1 : Jvm.Cond.declares y ∈ gm_wst := List.mem_append.mpr (Or.inr (List.mem_append.mpr (Or.inr (List.mem_append.mpr (Or.inl (List.mem_map.mpr ⟨y, hy, rfl⟩))))))
      exact va_tabs (U := s) rfl rfl (hst _ h1)
  have hcx : gm_Cx 370 p l s m #[Value.ref b] meth c := by
    refine ⟨hexec, hb, hml, hown, hr, hlk, fun w hw => hts w (List.mem_filter.mp hw).1, hnm, ?_, by decide, htab⟩
    unfold Launch.stackTraces
    rw [hflags]
    decide +kernel
  have hK : va_K D gm_cs (gm_ty fun i => ([t0, t1, t2, t3][i]?).getD 0) s := by
    refine ⟨hD, fun k q hq => ?_⟩
    match k, hq with
    | 0, hq => cases hq; exact ⟨a0, b0⟩
    | 1, hq => cases hq; exact ⟨a1, b1⟩
    | 2, hq => cases hq; exact ⟨a2, b2⟩
    | 3, hq => cases hq; exact ⟨a3, b3⟩
  have hsr : gm_sr (fun _ => 0) aK 0 [gm_vo 2000] [Value.ref b] := ⟨_, [], rfl, ⟨b, rfl, fun _ => k0.symm⟩, rfl⟩
  have hgo := hW (fun j => (xs j.toNat).toInt) L hL (fun j => ⟨by have := Int32.le_toInt (xs j.toNat); omega, by have := Int32.toInt_lt (xs j.toNat); omega⟩) p l e room_1 s m #[Value.ref b] below meth c D (fun i => ([t0, t1, t2, t3][i]?).getD 0) aK adV A (fun _ => 0) 0 601024 7293034 hcx hev (Nat.le_of_ble_eq_true rfl) (Nat.le_of_ble_eq_true rfl) (Nat.le_refl _) (Nat.le_refl _) (fun q hq => by rw [hA]; exact hq) (fun _ => 0) s.heap [] 0 0 _ [] gm_xt.rf (by omega) (by omega) ⟨hK, fun k q hq => by (unfold gm_wl at hq; simp at hq), ⟨fun i j p q hp => by (unfold gm_wl at hp; simp at hp), fun k q hq => by (unfold gm_wl at hq; simp at hq)⟩, va_S.rf, ⟨by decide, fun _ _ => Or.inl (Nat.le_refl _)⟩⟩ (gm_lr_ent (mj := 370) hsr (fun v hv => by (rw [List.mem_singleton.mp hv]; decide)) (by decide)) rfl
  intro T hT Xs
  have e0 : (F0 m 0 ((lg_sl [Value.ref b] ++ List.replicate (gm_ml 370 - (lg_sl [Value.ref b]).length) Slot.unset).toArray) [] : JFrame) = entryFrame m ([Value.ref b] : List Value).toArray 7 := (lg_entry_eq m [Value.ref b] 7).symm
  rw [e0] at hgo
  obtain ⟨t, g1, o, g2, g3, g4⟩ := hgo T hT Xs
  refine ⟨t, g1, o, g2, g3, ?_⟩
  rcases g4 with ⟨⟨⟨v, u, α, n, K, R, M, rfl, hv, hq, -⟩, -⟩, L9, h5, h6⟩ | ⟨q, rfl, h7⟩
  · cases hq
    obtain ⟨w, rfl, hw⟩ := hv
    refine ⟨by rw [show w = .int 1 from hw], gm_frame h5 fun q hq => ?_⟩
    have h8 := h6 q hq
    rw [hA] at h8
    exact h8
  · exfalso
    obtain ⟨E, ce, L9, ⟨⟨x, α, n, K, R, M, -, -, hq, -⟩, -⟩, -⟩ := h7
    cases hq
set_option maxHeartbeats 4000000 in
theorem lw_walk (hW : gm_Law) (l : Launch) (hflags : l.flags = flags0) (b : Addr) (xs : List Int32) : MetFree l x (headSpec (Jvm.Cond.code x code maxLocals ret :: tables_1) room_1) (lw_P b xs) (fun _ _ _ _ _ => True) lw_Q := by
  refine MetFree.of_bodyS (code := code) (maxLocals := maxLocals) (ret := ret) (by decide) ?_ ?_
  · intro args s m h hn
    obtain ⟨meth, c, h1, h2, h3, h4, h5, h6, -, -⟩ := Cond.code_spec hn (atoms_spec (ws := Jvm.Cond.code x code maxLocals ret :: tables_1) h _ List.mem_cons_self)
    exact ⟨meth, c, h1, h2, h3, h4, h5, h6⟩
  · intro p e s m args below meth c s₁ B hml0 hP _
    obtain ⟨rfl, hx, hbd, hgv⟩ := hP
    obtain ⟨scr, harrAt, hlist, hof, hsmall⟩ := hx
    obtain ⟨hcb, hkn, -, -⟩ := State.arrayAt?_spec harrAt
    have hown : s.vm.findClass R_law = some m.cls := findClass_of_methodNamed B.named
    have hts0 : ∀ c ∈ (Jvm.Cond.code x code maxLocals ret :: tables_1), c.before #[Value.ref b] s = true := atoms_spec (ws := Jvm.Cond.code x code maxLocals ret :: tables_1) B.pre
    have hts : ∀ w ∈ lw_tbl, w.before #[Value.ref b] s = true := k2_hts_sels lw_privs (fun w hw => hts0 w (List.mem_cons_of_mem _ hw)) lw_privs_ok
    have hml : c.maxLocals = 7 := B.maxLocals_eq (hts0 _ List.mem_cons_self)
    have X₀ : Stand p l e room_1 s m #[Value.ref b] below meth c s₁ [] 0 0 := Stand.of_body B
    have hh0 : s₁.heap = s.heap := by rw [B.state]; rfl
    have htab : c.exceptionTable.toList = [] := by
      obtain ⟨meth9, c9, h1, h2, -, -, -, -, h7, -⟩ := Cond.code_spec B.named (hts0 _ List.mem_cons_self)
      cases Option.some.inj (h1.symm.trans B.method)
      cases Option.some.inj (h2.symm.trans (Stand.of_body B).code)
      rw [Array.isEmpty_iff.mp h7]
    have hnm : meth.name = "law" := (name_of_methodNamed B.named B.method).1
    have hsz : scr.slots.size = xs.length := by rw [← Array.length_toList, hlist, List.length_map]
    have hval : ∀ j : Nat, j < xs.length → scr.slots[j]? = some (.int (xs.getD j 0)) := fun j hj => by
      rw [← Array.getElem?_toList, hlist]
      simp [hj]
    have hbl : b < s.heap.size := (Array.getElem?_eq_some_iff.mp hcb).1
    have hX : va_X b xs.length (fun j => xs.getD j 0) s s.heap := ⟨scr, hcb, hof, hkn, hsz, hval⟩
    have K : W p l e room_1 s m #[Value.ref b] below meth c s₁.heap [] 0 0 (lw_Z below #[Value.ref b] s) (entryFrame m ([Value.ref b] : List Value).toArray 7) := by
      rw [hh0]
      exact gm_start l hflags hbd hW B.exec B.bytes B.returns hml hown hts hX hbl B.notSynchronized hgv hnm htab
    obtain ⟨t, a1, o, b1, b2, b3⟩ := K s₁ rfl X₀
    exact ⟨t, o, a1, b1, b2, b3⟩
end ST
