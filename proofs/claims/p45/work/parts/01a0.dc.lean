/-! 01a0.dc -/
section
/-! INSTRUCTIONS' lengths, and what a table's row says (laid by wip/am/gen_tables.py). -/
def gm_len : Instr → Nat
  | .bipush _ | .ldc _ | .iload _ | .istore _ | .aload _ | .astore _ | .lload _ | .lstore _ | .newarray _ => 2
  | .sipush _ | .ldc_w _ | .ldc2_w _ | .iinc _ _ | .ifCond _ _ | .if_icmp _ _ | .if_acmp _ _ | .goto _ | .ifnull _ | .ifnonnull _ | .getfield _ | .putfield _ | .getstatic _ | .invokevirtual _ | .invokespecial _ | .invokestatic _ | .new _ | .anewarray _ | .checkcast _ => 3
  | _ => 1
def gm_sw : Instr → Bool
  | .tableswitch .. => true
  | .lookupswitch .. => true
  | _ => false
def gm_ck1 (b : ByteArray) (q : Nat × Instr) : Bool := match decode b q.1 with | .ok x => decide (x.1 = q.2) && (gm_sw q.2 || decide (x.2 = gm_len q.2)) | .error _ => false
def gm_ckm (b : ByteArray) (l : List (List (Nat × Instr))) : Bool := l.all fun r => r.all (gm_ck1 b)
/-! THE DECODER, by shapes: what an instruction's bytes are (laid by wip/rel/dec.py). -/
section DEC
variable {b : ByteArray} {pc n : Nat} {r : List UInt8} {i : Instr}
theorem gm_rd1 {x : UInt8} (h : b.data.toList.drop pc = x :: r) : (Reader.u1 : Decoder Nat) b pc = .ok (x.toNat, pc + 1) ∧ b.data.toList.drop (pc + 1) = r := by
  have h2 : b.data.toList[pc]? = some x := by rw [← List.head?_drop, h]; rfl
  have hs : pc < b.size := (List.getElem?_eq_some_iff.mp h2).1
  have hx : b[pc] = x := (List.getElem?_eq_some_iff.mp h2).2
  refine ⟨?_, ?_⟩
  · show (dite (pc < b.size) (fun h => (do set (pc + 1); pure (b[pc]'h).toNat : Decoder Nat)) (fun _ => throw (HasTruncated.truncated pc))) b pc = _
    rw [dif_pos hs]
    show Except.ok ((b[pc]'hs).toNat, pc + 1) = _
    rw [hx]
  · rw [← List.drop_drop, h]; rfl
theorem gm_bnd {α β : Type} {m : Decoder α} {f : α → Decoder β} {p p' : Nat} {v : α} {z : Except DecodeError (β × Nat)} (h1 : m b p = .ok (v, p')) (h2 : f v b p' = z) : (m >>= f) b p = z := by
  show Except.bind (m b p) (fun q => f q.1 b q.2) = z
  rw [h1]
  exact h2
theorem gm_mpd {α β : Type} {m : Decoder α} {f : α → β} {p p' : Nat} {v : α} (h1 : m b p = .ok (v, p')) : (f <$> m : Decoder β) b p = .ok (f v, p') := by
  show Except.bind (m b p) (fun q => .ok (f q.1, q.2)) = _
  rw [h1]
  rfl
theorem gm_dcd (h : Decoder.instr pc b pc = .ok (i, pc + n)) : decode b pc = .ok (i, n) := by
  show Except.bind (Decoder.instr pc b pc) (fun q => .ok (q.1, q.2 - pc)) = _
  rw [h]
  show Except.ok (i, pc + n - pc) = _
  rw [Nat.add_sub_cancel_left]
theorem gm_rd2 {x y : UInt8} (h : b.data.toList.drop pc = x :: y :: r) : (Reader.u2 : Decoder Nat) b pc = .ok (x.toNat * 256 + y.toNat, pc + 2) ∧ b.data.toList.drop (pc + 2) = r := by
  have h1 := gm_rd1 h
  have h2 := gm_rd1 h1.2
  refine ⟨?_, h2.2⟩
  unfold Reader.u2
  exact gm_bnd h1.1 (gm_bnd h2.1 rfl)
theorem gm_rds1 {x : UInt8} (h : b.data.toList.drop pc = x :: r) : (Reader.s1 : Decoder Int) b pc = .ok (Reader.signed 8 x.toNat, pc + 1) := gm_mpd (gm_rd1 h).1
theorem gm_rds2 {x y : UInt8} (h : b.data.toList.drop pc = x :: y :: r) : (Reader.s2 : Decoder Int) b pc = .ok (Reader.signed 16 (x.toNat * 256 + y.toNat), pc + 2) := gm_mpd (gm_rd2 h).1
/-! bytes by a shape: none, a number of one byte, a signed one, of two bytes, a signed one, two of one byte -/
def gm_f0 (op : Nat) : List UInt8 → Option (Nat × List UInt8)
  | x :: r => bif Nat.beq x.toNat op then some (1, r) else none
  | _ => none
def gm_f1 (op : Nat) (a : Int) : List UInt8 → Option (Nat × List UInt8)
  | x :: y :: r => bif Nat.beq x.toNat op && decide ((y.toNat : Int) = a) then some (2, r) else none
  | _ => none
def gm_f2 (op : Nat) (a : Int) : List UInt8 → Option (Nat × List UInt8)
  | x :: y :: r => bif Nat.beq x.toNat op && decide (Reader.signed 8 y.toNat = a) then some (2, r) else none
  | _ => none
def gm_f3 (op : Nat) (a : Int) : List UInt8 → Option (Nat × List UInt8)
  | x :: y :: z :: r => bif Nat.beq x.toNat op && decide (((y.toNat * 256 + z.toNat : Nat) : Int) = a) then some (3, r) else none
  | _ => none
def gm_f4 (op : Nat) (a : Int) : List UInt8 → Option (Nat × List UInt8)
  | x :: y :: z :: r => bif Nat.beq x.toNat op && decide (Reader.signed 16 (y.toNat * 256 + z.toNat) = a) then some (3, r) else none
  | _ => none
def gm_f5 (op : Nat) (a c : Int) : List UInt8 → Option (Nat × List UInt8)
  | x :: y :: z :: r => bif Nat.beq x.toNat op && (decide ((y.toNat : Int) = a) && decide (Reader.signed 8 z.toNat = c)) then some (3, r) else none
  | _ => none
def gm_fit (p : Nat × Nat × Int × Int) (l : List UInt8) : Option (Nat × List UInt8) := match p.1 with
  | 0 => gm_f0 p.2.1 l
  | 1 => gm_f1 p.2.1 p.2.2.1 l
  | 2 => gm_f2 p.2.1 p.2.2.1 l
  | 3 => gm_f3 p.2.1 p.2.2.1 l
  | 4 => gm_f4 p.2.1 p.2.2.1 l
  | 5 => gm_f5 p.2.1 p.2.2.1 p.2.2.2 l
  | _ => none
variable {l : List UInt8} {op : Nat} {a c : Int}
theorem gm_g0 (h : gm_f0 op l = some (n, r)) : ∃ x, l = x :: r ∧ x.toNat = op ∧ n = 1 := by
  cases l with
  | nil => cases h
  | cons x t =>
    have h : (bif Nat.beq x.toNat op then some (1, t) else none) = some (n, r) := h
    cases e : Nat.beq x.toNat op with
    | false => rw [e] at h; cases h
    | true => rw [e] at h; cases h; exact ⟨x, rfl, Nat.eq_of_beq_eq_true e, rfl⟩
theorem gm_g1 (h : gm_f1 op a l = some (n, r)) : ∃ x y, l = x :: y :: r ∧ x.toNat = op ∧ (y.toNat : Int) = a ∧ n = 2 := by
  match l, h with
  | x :: y :: t, h =>
    have h : (bif Nat.beq x.toNat op && decide ((y.toNat : Int) = a) then some (2, t) else none) = some (n, r) := h
    cases e : (Nat.beq x.toNat op && decide ((y.toNat : Int) = a)) with
    | false => rw [e] at h; cases h
    | true =>
      rw [e] at h; cases h
      simp only [Bool.and_eq_true, decide_eq_true_eq] at e
      exact ⟨x, y, rfl, Nat.eq_of_beq_eq_true e.1, e.2, rfl⟩
  | [x], h => cases h
  | [], h => cases h
theorem gm_g2 (h : gm_f2 op a l = some (n, r)) : ∃ x y, l = x :: y :: r ∧ x.toNat = op ∧ Reader.signed 8 y.toNat = a ∧ n = 2 := by
  match l, h with
  | x :: y :: t, h =>
    have h : (bif Nat.beq x.toNat op && decide (Reader.signed 8 y.toNat = a) then some (2, t) else none) = some (n, r) := h
    cases e : (Nat.beq x.toNat op && decide (Reader.signed 8 y.toNat = a)) with
    | false => rw [e] at h; cases h
    | true =>
      rw [e] at h; cases h
      simp only [Bool.and_eq_true, decide_eq_true_eq] at e
      exact ⟨x, y, rfl, Nat.eq_of_beq_eq_true e.1, e.2, rfl⟩
  | [x], h => cases h
  | [], h => cases h
theorem gm_g3 (h : gm_f3 op a l = some (n, r)) : ∃ x y z, l = x :: y :: z :: r ∧ x.toNat = op ∧ ((y.toNat * 256 + z.toNat : Nat) : Int) = a ∧ n = 3 := by
  match l, h with
  | x :: y :: z :: t, h =>
    have h : (bif Nat.beq x.toNat op && decide (((y.toNat * 256 + z.toNat : Nat) : Int) = a) then some (3, t) else none) = some (n, r) := h
    cases e : (Nat.beq x.toNat op && decide (((y.toNat * 256 + z.toNat : Nat) : Int) = a)) with
    | false => rw [e] at h; cases h
    | true =>
      rw [e] at h; cases h
      simp only [Bool.and_eq_true, decide_eq_true_eq] at e
      exact ⟨x, y, z, rfl, Nat.eq_of_beq_eq_true e.1, e.2, rfl⟩
  | [x, y], h => cases h
  | [x], h => cases h
  | [], h => cases h
theorem gm_g4 (h : gm_f4 op a l = some (n, r)) : ∃ x y z, l = x :: y :: z :: r ∧ x.toNat = op ∧ Reader.signed 16 (y.toNat * 256 + z.toNat) = a ∧ n = 3 := by
  match l, h with
  | x :: y :: z :: t, h =>
    have h : (bif Nat.beq x.toNat op && decide (Reader.signed 16 (y.toNat * 256 + z.toNat) = a) then some (3, t) else none) = some (n, r) := h
    cases e : (Nat.beq x.toNat op && decide (Reader.signed 16 (y.toNat * 256 + z.toNat) = a)) with
    | false => rw [e] at h; cases h
    | true =>
      rw [e] at h; cases h
      simp only [Bool.and_eq_true, decide_eq_true_eq] at e
      exact ⟨x, y, z, rfl, Nat.eq_of_beq_eq_true e.1, e.2, rfl⟩
  | [x, y], h => cases h
  | [x], h => cases h
  | [], h => cases h
theorem gm_g5 (h : gm_f5 op a c l = some (n, r)) : ∃ x y z, l = x :: y :: z :: r ∧ x.toNat = op ∧ (y.toNat : Int) = a ∧ Reader.signed 8 z.toNat = c ∧ n = 3 := by
  match l, h with
  | x :: y :: z :: t, h =>
    have h : (bif Nat.beq x.toNat op && (decide ((y.toNat : Int) = a) && decide (Reader.signed 8 z.toNat = c)) then some (3, t) else none) = some (n, r) := h
    cases e : (Nat.beq x.toNat op && (decide ((y.toNat : Int) = a) && decide (Reader.signed 8 z.toNat = c))) with
    | false => rw [e] at h; cases h
    | true =>
      rw [e] at h; cases h
      simp only [Bool.and_eq_true, decide_eq_true_eq] at e
      exact ⟨x, y, z, rfl, Nat.eq_of_beq_eq_true e.1, e.2.1, e.2.2, rfl⟩
  | [x, y], h => cases h
  | [x], h => cases h
  | [], h => cases h
theorem gm_e_iaload {x : UInt8} (h : b.data.toList.drop pc = x :: r) (hx : x.toNat = 46) : decode b pc = .ok (.iaload, 1) := by
  have h1 := gm_rd1 h
  have h2 := h1.1
  rw [hx] at h2
  refine gm_dcd (show Decoder.instr pc b pc = .ok (.iaload, pc + 1) from ?_)
  unfold Decoder.instr
  exact gm_bnd h2 (rfl)
theorem gm_e_laload {x : UInt8} (h : b.data.toList.drop pc = x :: r) (hx : x.toNat = 47) : decode b pc = .ok (.laload, 1) := by
  have h1 := gm_rd1 h
  have h2 := h1.1
  rw [hx] at h2
  refine gm_dcd (show Decoder.instr pc b pc = .ok (.laload, pc + 1) from ?_)
  unfold Decoder.instr
  exact gm_bnd h2 (rfl)
theorem gm_e_aaload {x : UInt8} (h : b.data.toList.drop pc = x :: r) (hx : x.toNat = 50) : decode b pc = .ok (.aaload, 1) := by
  have h1 := gm_rd1 h
  have h2 := h1.1
  rw [hx] at h2
  refine gm_dcd (show Decoder.instr pc b pc = .ok (.aaload, pc + 1) from ?_)
  unfold Decoder.instr
  exact gm_bnd h2 (rfl)
theorem gm_e_baload {x : UInt8} (h : b.data.toList.drop pc = x :: r) (hx : x.toNat = 51) : decode b pc = .ok (.baload, 1) := by
  have h1 := gm_rd1 h
  have h2 := h1.1
  rw [hx] at h2
  refine gm_dcd (show Decoder.instr pc b pc = .ok (.baload, pc + 1) from ?_)
  unfold Decoder.instr
  exact gm_bnd h2 (rfl)
theorem gm_e_iastore {x : UInt8} (h : b.data.toList.drop pc = x :: r) (hx : x.toNat = 79) : decode b pc = .ok (.iastore, 1) := by
  have h1 := gm_rd1 h
  have h2 := h1.1
  rw [hx] at h2
  refine gm_dcd (show Decoder.instr pc b pc = .ok (.iastore, pc + 1) from ?_)
  unfold Decoder.instr
  exact gm_bnd h2 (rfl)
theorem gm_e_lastore {x : UInt8} (h : b.data.toList.drop pc = x :: r) (hx : x.toNat = 80) : decode b pc = .ok (.lastore, 1) := by
  have h1 := gm_rd1 h
  have h2 := h1.1
  rw [hx] at h2
  refine gm_dcd (show Decoder.instr pc b pc = .ok (.lastore, pc + 1) from ?_)
  unfold Decoder.instr
  exact gm_bnd h2 (rfl)
theorem gm_e_aastore {x : UInt8} (h : b.data.toList.drop pc = x :: r) (hx : x.toNat = 83) : decode b pc = .ok (.aastore, 1) := by
  have h1 := gm_rd1 h
  have h2 := h1.1
  rw [hx] at h2
  refine gm_dcd (show Decoder.instr pc b pc = .ok (.aastore, pc + 1) from ?_)
  unfold Decoder.instr
  exact gm_bnd h2 (rfl)
theorem gm_e_bastore {x : UInt8} (h : b.data.toList.drop pc = x :: r) (hx : x.toNat = 84) : decode b pc = .ok (.bastore, 1) := by
  have h1 := gm_rd1 h
  have h2 := h1.1
  rw [hx] at h2
  refine gm_dcd (show Decoder.instr pc b pc = .ok (.bastore, pc + 1) from ?_)
  unfold Decoder.instr
  exact gm_bnd h2 (rfl)
theorem gm_e_pop {x : UInt8} (h : b.data.toList.drop pc = x :: r) (hx : x.toNat = 87) : decode b pc = .ok (.pop, 1) := by
  have h1 := gm_rd1 h
  have h2 := h1.1
  rw [hx] at h2
  refine gm_dcd (show Decoder.instr pc b pc = .ok (.pop, pc + 1) from ?_)
  unfold Decoder.instr
  exact gm_bnd h2 (rfl)
theorem gm_e_dup {x : UInt8} (h : b.data.toList.drop pc = x :: r) (hx : x.toNat = 89) : decode b pc = .ok (.dup, 1) := by
  have h1 := gm_rd1 h
  have h2 := h1.1
  rw [hx] at h2
  refine gm_dcd (show Decoder.instr pc b pc = .ok (.dup, pc + 1) from ?_)
  unfold Decoder.instr
  exact gm_bnd h2 (rfl)
theorem gm_e_dup2 {x : UInt8} (h : b.data.toList.drop pc = x :: r) (hx : x.toNat = 92) : decode b pc = .ok (.dup2, 1) := by
  have h1 := gm_rd1 h
  have h2 := h1.1
  rw [hx] at h2
  refine gm_dcd (show Decoder.instr pc b pc = .ok (.dup2, pc + 1) from ?_)
  unfold Decoder.instr
  exact gm_bnd h2 (rfl)
theorem gm_e_iadd {x : UInt8} (h : b.data.toList.drop pc = x :: r) (hx : x.toNat = 96) : decode b pc = .ok (.iadd, 1) := by
  have h1 := gm_rd1 h
  have h2 := h1.1
  rw [hx] at h2
  refine gm_dcd (show Decoder.instr pc b pc = .ok (.iadd, pc + 1) from ?_)
  unfold Decoder.instr
  exact gm_bnd h2 (rfl)
theorem gm_e_isub {x : UInt8} (h : b.data.toList.drop pc = x :: r) (hx : x.toNat = 100) : decode b pc = .ok (.isub, 1) := by
  have h1 := gm_rd1 h
  have h2 := h1.1
  rw [hx] at h2
  refine gm_dcd (show Decoder.instr pc b pc = .ok (.isub, pc + 1) from ?_)
  unfold Decoder.instr
  exact gm_bnd h2 (rfl)
theorem gm_e_imul {x : UInt8} (h : b.data.toList.drop pc = x :: r) (hx : x.toNat = 104) : decode b pc = .ok (.imul, 1) := by
  have h1 := gm_rd1 h
  have h2 := h1.1
  rw [hx] at h2
  refine gm_dcd (show Decoder.instr pc b pc = .ok (.imul, pc + 1) from ?_)
  unfold Decoder.instr
  exact gm_bnd h2 (rfl)
theorem gm_e_idiv {x : UInt8} (h : b.data.toList.drop pc = x :: r) (hx : x.toNat = 108) : decode b pc = .ok (.idiv, 1) := by
  have h1 := gm_rd1 h
  have h2 := h1.1
  rw [hx] at h2
  refine gm_dcd (show Decoder.instr pc b pc = .ok (.idiv, pc + 1) from ?_)
  unfold Decoder.instr
  exact gm_bnd h2 (rfl)
theorem gm_e_irem {x : UInt8} (h : b.data.toList.drop pc = x :: r) (hx : x.toNat = 112) : decode b pc = .ok (.irem, 1) := by
  have h1 := gm_rd1 h
  have h2 := h1.1
  rw [hx] at h2
  refine gm_dcd (show Decoder.instr pc b pc = .ok (.irem, pc + 1) from ?_)
  unfold Decoder.instr
  exact gm_bnd h2 (rfl)
theorem gm_e_ineg {x : UInt8} (h : b.data.toList.drop pc = x :: r) (hx : x.toNat = 116) : decode b pc = .ok (.ineg, 1) := by
  have h1 := gm_rd1 h
  have h2 := h1.1
  rw [hx] at h2
  refine gm_dcd (show Decoder.instr pc b pc = .ok (.ineg, pc + 1) from ?_)
  unfold Decoder.instr
  exact gm_bnd h2 (rfl)
theorem gm_e_ishl {x : UInt8} (h : b.data.toList.drop pc = x :: r) (hx : x.toNat = 120) : decode b pc = .ok (.ishl, 1) := by
  have h1 := gm_rd1 h
  have h2 := h1.1
  rw [hx] at h2
  refine gm_dcd (show Decoder.instr pc b pc = .ok (.ishl, pc + 1) from ?_)
  unfold Decoder.instr
  exact gm_bnd h2 (rfl)
theorem gm_e_lshl {x : UInt8} (h : b.data.toList.drop pc = x :: r) (hx : x.toNat = 121) : decode b pc = .ok (.lshl, 1) := by
  have h1 := gm_rd1 h
  have h2 := h1.1
  rw [hx] at h2
  refine gm_dcd (show Decoder.instr pc b pc = .ok (.lshl, pc + 1) from ?_)
  unfold Decoder.instr
  exact gm_bnd h2 (rfl)
theorem gm_e_ishr {x : UInt8} (h : b.data.toList.drop pc = x :: r) (hx : x.toNat = 122) : decode b pc = .ok (.ishr, 1) := by
  have h1 := gm_rd1 h
  have h2 := h1.1
  rw [hx] at h2
  refine gm_dcd (show Decoder.instr pc b pc = .ok (.ishr, pc + 1) from ?_)
  unfold Decoder.instr
  exact gm_bnd h2 (rfl)
theorem gm_e_iushr {x : UInt8} (h : b.data.toList.drop pc = x :: r) (hx : x.toNat = 124) : decode b pc = .ok (.iushr, 1) := by
  have h1 := gm_rd1 h
  have h2 := h1.1
  rw [hx] at h2
  refine gm_dcd (show Decoder.instr pc b pc = .ok (.iushr, pc + 1) from ?_)
  unfold Decoder.instr
  exact gm_bnd h2 (rfl)
theorem gm_e_lushr {x : UInt8} (h : b.data.toList.drop pc = x :: r) (hx : x.toNat = 125) : decode b pc = .ok (.lushr, 1) := by
  have h1 := gm_rd1 h
  have h2 := h1.1
  rw [hx] at h2
  refine gm_dcd (show Decoder.instr pc b pc = .ok (.lushr, pc + 1) from ?_)
  unfold Decoder.instr
  exact gm_bnd h2 (rfl)
theorem gm_e_iand {x : UInt8} (h : b.data.toList.drop pc = x :: r) (hx : x.toNat = 126) : decode b pc = .ok (.iand, 1) := by
  have h1 := gm_rd1 h
  have h2 := h1.1
  rw [hx] at h2
  refine gm_dcd (show Decoder.instr pc b pc = .ok (.iand, pc + 1) from ?_)
  unfold Decoder.instr
  exact gm_bnd h2 (rfl)
theorem gm_e_land {x : UInt8} (h : b.data.toList.drop pc = x :: r) (hx : x.toNat = 127) : decode b pc = .ok (.land, 1) := by
  have h1 := gm_rd1 h
  have h2 := h1.1
  rw [hx] at h2
  refine gm_dcd (show Decoder.instr pc b pc = .ok (.land, pc + 1) from ?_)
  unfold Decoder.instr
  exact gm_bnd h2 (rfl)
theorem gm_e_ior {x : UInt8} (h : b.data.toList.drop pc = x :: r) (hx : x.toNat = 128) : decode b pc = .ok (.ior, 1) := by
  have h1 := gm_rd1 h
  have h2 := h1.1
  rw [hx] at h2
  refine gm_dcd (show Decoder.instr pc b pc = .ok (.ior, pc + 1) from ?_)
  unfold Decoder.instr
  exact gm_bnd h2 (rfl)
theorem gm_e_lor {x : UInt8} (h : b.data.toList.drop pc = x :: r) (hx : x.toNat = 129) : decode b pc = .ok (.lor, 1) := by
  have h1 := gm_rd1 h
  have h2 := h1.1
  rw [hx] at h2
  refine gm_dcd (show Decoder.instr pc b pc = .ok (.lor, pc + 1) from ?_)
  unfold Decoder.instr
  exact gm_bnd h2 (rfl)
theorem gm_e_ixor {x : UInt8} (h : b.data.toList.drop pc = x :: r) (hx : x.toNat = 130) : decode b pc = .ok (.ixor, 1) := by
  have h1 := gm_rd1 h
  have h2 := h1.1
  rw [hx] at h2
  refine gm_dcd (show Decoder.instr pc b pc = .ok (.ixor, pc + 1) from ?_)
  unfold Decoder.instr
  exact gm_bnd h2 (rfl)
theorem gm_e_lxor {x : UInt8} (h : b.data.toList.drop pc = x :: r) (hx : x.toNat = 131) : decode b pc = .ok (.lxor, 1) := by
  have h1 := gm_rd1 h
  have h2 := h1.1
  rw [hx] at h2
  refine gm_dcd (show Decoder.instr pc b pc = .ok (.lxor, pc + 1) from ?_)
  unfold Decoder.instr
  exact gm_bnd h2 (rfl)
theorem gm_e_i2l {x : UInt8} (h : b.data.toList.drop pc = x :: r) (hx : x.toNat = 133) : decode b pc = .ok (.i2l, 1) := by
  have h1 := gm_rd1 h
  have h2 := h1.1
  rw [hx] at h2
  refine gm_dcd (show Decoder.instr pc b pc = .ok (.i2l, pc + 1) from ?_)
  unfold Decoder.instr
  exact gm_bnd h2 (rfl)
theorem gm_e_l2i {x : UInt8} (h : b.data.toList.drop pc = x :: r) (hx : x.toNat = 136) : decode b pc = .ok (.l2i, 1) := by
  have h1 := gm_rd1 h
  have h2 := h1.1
  rw [hx] at h2
  refine gm_dcd (show Decoder.instr pc b pc = .ok (.l2i, pc + 1) from ?_)
  unfold Decoder.instr
  exact gm_bnd h2 (rfl)
theorem gm_e_i2b {x : UInt8} (h : b.data.toList.drop pc = x :: r) (hx : x.toNat = 145) : decode b pc = .ok (.i2b, 1) := by
  have h1 := gm_rd1 h
  have h2 := h1.1
  rw [hx] at h2
  refine gm_dcd (show Decoder.instr pc b pc = .ok (.i2b, pc + 1) from ?_)
  unfold Decoder.instr
  exact gm_bnd h2 (rfl)
theorem gm_e_i2c {x : UInt8} (h : b.data.toList.drop pc = x :: r) (hx : x.toNat = 146) : decode b pc = .ok (.i2c, 1) := by
  have h1 := gm_rd1 h
  have h2 := h1.1
  rw [hx] at h2
  refine gm_dcd (show Decoder.instr pc b pc = .ok (.i2c, pc + 1) from ?_)
  unfold Decoder.instr
  exact gm_bnd h2 (rfl)
theorem gm_e_lcmp {x : UInt8} (h : b.data.toList.drop pc = x :: r) (hx : x.toNat = 148) : decode b pc = .ok (.lcmp, 1) := by
  have h1 := gm_rd1 h
  have h2 := h1.1
  rw [hx] at h2
  refine gm_dcd (show Decoder.instr pc b pc = .ok (.lcmp, pc + 1) from ?_)
  unfold Decoder.instr
  exact gm_bnd h2 (rfl)
theorem gm_e_ireturn {x : UInt8} (h : b.data.toList.drop pc = x :: r) (hx : x.toNat = 172) : decode b pc = .ok (.ireturn, 1) := by
  have h1 := gm_rd1 h
  have h2 := h1.1
  rw [hx] at h2
  refine gm_dcd (show Decoder.instr pc b pc = .ok (.ireturn, pc + 1) from ?_)
  unfold Decoder.instr
  exact gm_bnd h2 (rfl)
theorem gm_e_areturn {x : UInt8} (h : b.data.toList.drop pc = x :: r) (hx : x.toNat = 176) : decode b pc = .ok (.areturn, 1) := by
  have h1 := gm_rd1 h
  have h2 := h1.1
  rw [hx] at h2
  refine gm_dcd (show Decoder.instr pc b pc = .ok (.areturn, pc + 1) from ?_)
  unfold Decoder.instr
  exact gm_bnd h2 (rfl)
theorem gm_e_return_ {x : UInt8} (h : b.data.toList.drop pc = x :: r) (hx : x.toNat = 177) : decode b pc = .ok (.return_, 1) := by
  have h1 := gm_rd1 h
  have h2 := h1.1
  rw [hx] at h2
  refine gm_dcd (show Decoder.instr pc b pc = .ok (.return_, pc + 1) from ?_)
  unfold Decoder.instr
  exact gm_bnd h2 (rfl)
theorem gm_e_arraylength {x : UInt8} (h : b.data.toList.drop pc = x :: r) (hx : x.toNat = 190) : decode b pc = .ok (.arraylength, 1) := by
  have h1 := gm_rd1 h
  have h2 := h1.1
  rw [hx] at h2
  refine gm_dcd (show Decoder.instr pc b pc = .ok (.arraylength, pc + 1) from ?_)
  unfold Decoder.instr
  exact gm_bnd h2 (rfl)
theorem gm_e_athrow {x : UInt8} (h : b.data.toList.drop pc = x :: r) (hx : x.toNat = 191) : decode b pc = .ok (.athrow, 1) := by
  have h1 := gm_rd1 h
  have h2 := h1.1
  rw [hx] at h2
  refine gm_dcd (show Decoder.instr pc b pc = .ok (.athrow, pc + 1) from ?_)
  unfold Decoder.instr
  exact gm_bnd h2 (rfl)
theorem gm_e_aconst_null {x : UInt8} (h : b.data.toList.drop pc = x :: r) (hx : x.toNat = 1) : decode b pc = .ok (.aconst_null, 1) := by
  have h1 := gm_rd1 h
  have h2 := h1.1
  rw [hx] at h2
  refine gm_dcd (show Decoder.instr pc b pc = .ok (.aconst_null, pc + 1) from ?_)
  unfold Decoder.instr
  exact gm_bnd h2 (rfl)
theorem gm_e_iload_n0 {x : UInt8} (h : b.data.toList.drop pc = x :: r) (hx : x.toNat = 26) : decode b pc = .ok (.iload_n 0, 1) := by
  have h1 := gm_rd1 h
  have h2 := h1.1
  rw [hx] at h2
  refine gm_dcd (show Decoder.instr pc b pc = .ok (.iload_n 0, pc + 1) from ?_)
  unfold Decoder.instr
  exact gm_bnd h2 (rfl)
theorem gm_e_iload_n1 {x : UInt8} (h : b.data.toList.drop pc = x :: r) (hx : x.toNat = 27) : decode b pc = .ok (.iload_n 1, 1) := by
  have h1 := gm_rd1 h
  have h2 := h1.1
  rw [hx] at h2
  refine gm_dcd (show Decoder.instr pc b pc = .ok (.iload_n 1, pc + 1) from ?_)
  unfold Decoder.instr
  exact gm_bnd h2 (rfl)
theorem gm_e_iload_n2 {x : UInt8} (h : b.data.toList.drop pc = x :: r) (hx : x.toNat = 28) : decode b pc = .ok (.iload_n 2, 1) := by
  have h1 := gm_rd1 h
  have h2 := h1.1
  rw [hx] at h2
  refine gm_dcd (show Decoder.instr pc b pc = .ok (.iload_n 2, pc + 1) from ?_)
  unfold Decoder.instr
  exact gm_bnd h2 (rfl)
theorem gm_e_iload_n3 {x : UInt8} (h : b.data.toList.drop pc = x :: r) (hx : x.toNat = 29) : decode b pc = .ok (.iload_n 3, 1) := by
  have h1 := gm_rd1 h
  have h2 := h1.1
  rw [hx] at h2
  refine gm_dcd (show Decoder.instr pc b pc = .ok (.iload_n 3, pc + 1) from ?_)
  unfold Decoder.instr
  exact gm_bnd h2 (rfl)
theorem gm_e_lload_n0 {x : UInt8} (h : b.data.toList.drop pc = x :: r) (hx : x.toNat = 30) : decode b pc = .ok (.lload_n 0, 1) := by
  have h1 := gm_rd1 h
  have h2 := h1.1
  rw [hx] at h2
  refine gm_dcd (show Decoder.instr pc b pc = .ok (.lload_n 0, pc + 1) from ?_)
  unfold Decoder.instr
  exact gm_bnd h2 (rfl)
theorem gm_e_lload_n1 {x : UInt8} (h : b.data.toList.drop pc = x :: r) (hx : x.toNat = 31) : decode b pc = .ok (.lload_n 1, 1) := by
  have h1 := gm_rd1 h
  have h2 := h1.1
  rw [hx] at h2
  refine gm_dcd (show Decoder.instr pc b pc = .ok (.lload_n 1, pc + 1) from ?_)
  unfold Decoder.instr
  exact gm_bnd h2 (rfl)
theorem gm_e_lload_n2 {x : UInt8} (h : b.data.toList.drop pc = x :: r) (hx : x.toNat = 32) : decode b pc = .ok (.lload_n 2, 1) := by
  have h1 := gm_rd1 h
  have h2 := h1.1
  rw [hx] at h2
  refine gm_dcd (show Decoder.instr pc b pc = .ok (.lload_n 2, pc + 1) from ?_)
  unfold Decoder.instr
  exact gm_bnd h2 (rfl)
theorem gm_e_lload_n3 {x : UInt8} (h : b.data.toList.drop pc = x :: r) (hx : x.toNat = 33) : decode b pc = .ok (.lload_n 3, 1) := by
  have h1 := gm_rd1 h
  have h2 := h1.1
  rw [hx] at h2
  refine gm_dcd (show Decoder.instr pc b pc = .ok (.lload_n 3, pc + 1) from ?_)
  unfold Decoder.instr
  exact gm_bnd h2 (rfl)
theorem gm_e_aload_n0 {x : UInt8} (h : b.data.toList.drop pc = x :: r) (hx : x.toNat = 42) : decode b pc = .ok (.aload_n 0, 1) := by
  have h1 := gm_rd1 h
  have h2 := h1.1
  rw [hx] at h2
  refine gm_dcd (show Decoder.instr pc b pc = .ok (.aload_n 0, pc + 1) from ?_)
  unfold Decoder.instr
  exact gm_bnd h2 (rfl)
theorem gm_e_aload_n1 {x : UInt8} (h : b.data.toList.drop pc = x :: r) (hx : x.toNat = 43) : decode b pc = .ok (.aload_n 1, 1) := by
  have h1 := gm_rd1 h
  have h2 := h1.1
  rw [hx] at h2
  refine gm_dcd (show Decoder.instr pc b pc = .ok (.aload_n 1, pc + 1) from ?_)
  unfold Decoder.instr
  exact gm_bnd h2 (rfl)
theorem gm_e_aload_n2 {x : UInt8} (h : b.data.toList.drop pc = x :: r) (hx : x.toNat = 44) : decode b pc = .ok (.aload_n 2, 1) := by
  have h1 := gm_rd1 h
  have h2 := h1.1
  rw [hx] at h2
  refine gm_dcd (show Decoder.instr pc b pc = .ok (.aload_n 2, pc + 1) from ?_)
  unfold Decoder.instr
  exact gm_bnd h2 (rfl)
theorem gm_e_aload_n3 {x : UInt8} (h : b.data.toList.drop pc = x :: r) (hx : x.toNat = 45) : decode b pc = .ok (.aload_n 3, 1) := by
  have h1 := gm_rd1 h
  have h2 := h1.1
  rw [hx] at h2
  refine gm_dcd (show Decoder.instr pc b pc = .ok (.aload_n 3, pc + 1) from ?_)
  unfold Decoder.instr
  exact gm_bnd h2 (rfl)
theorem gm_e_istore_n0 {x : UInt8} (h : b.data.toList.drop pc = x :: r) (hx : x.toNat = 59) : decode b pc = .ok (.istore_n 0, 1) := by
  have h1 := gm_rd1 h
  have h2 := h1.1
  rw [hx] at h2
  refine gm_dcd (show Decoder.instr pc b pc = .ok (.istore_n 0, pc + 1) from ?_)
  unfold Decoder.instr
  exact gm_bnd h2 (rfl)
theorem gm_e_istore_n1 {x : UInt8} (h : b.data.toList.drop pc = x :: r) (hx : x.toNat = 60) : decode b pc = .ok (.istore_n 1, 1) := by
  have h1 := gm_rd1 h
  have h2 := h1.1
  rw [hx] at h2
  refine gm_dcd (show Decoder.instr pc b pc = .ok (.istore_n 1, pc + 1) from ?_)
  unfold Decoder.instr
  exact gm_bnd h2 (rfl)
theorem gm_e_istore_n2 {x : UInt8} (h : b.data.toList.drop pc = x :: r) (hx : x.toNat = 61) : decode b pc = .ok (.istore_n 2, 1) := by
  have h1 := gm_rd1 h
  have h2 := h1.1
  rw [hx] at h2
  refine gm_dcd (show Decoder.instr pc b pc = .ok (.istore_n 2, pc + 1) from ?_)
  unfold Decoder.instr
  exact gm_bnd h2 (rfl)
theorem gm_e_istore_n3 {x : UInt8} (h : b.data.toList.drop pc = x :: r) (hx : x.toNat = 62) : decode b pc = .ok (.istore_n 3, 1) := by
  have h1 := gm_rd1 h
  have h2 := h1.1
  rw [hx] at h2
  refine gm_dcd (show Decoder.instr pc b pc = .ok (.istore_n 3, pc + 1) from ?_)
  unfold Decoder.instr
  exact gm_bnd h2 (rfl)
theorem gm_e_lstore_n0 {x : UInt8} (h : b.data.toList.drop pc = x :: r) (hx : x.toNat = 63) : decode b pc = .ok (.lstore_n 0, 1) := by
  have h1 := gm_rd1 h
  have h2 := h1.1
  rw [hx] at h2
  refine gm_dcd (show Decoder.instr pc b pc = .ok (.lstore_n 0, pc + 1) from ?_)
  unfold Decoder.instr
  exact gm_bnd h2 (rfl)
theorem gm_e_lstore_n1 {x : UInt8} (h : b.data.toList.drop pc = x :: r) (hx : x.toNat = 64) : decode b pc = .ok (.lstore_n 1, 1) := by
  have h1 := gm_rd1 h
  have h2 := h1.1
  rw [hx] at h2
  refine gm_dcd (show Decoder.instr pc b pc = .ok (.lstore_n 1, pc + 1) from ?_)
  unfold Decoder.instr
  exact gm_bnd h2 (rfl)
theorem gm_e_lstore_n2 {x : UInt8} (h : b.data.toList.drop pc = x :: r) (hx : x.toNat = 65) : decode b pc = .ok (.lstore_n 2, 1) := by
  have h1 := gm_rd1 h
  have h2 := h1.1
  rw [hx] at h2
  refine gm_dcd (show Decoder.instr pc b pc = .ok (.lstore_n 2, pc + 1) from ?_)
  unfold Decoder.instr
  exact gm_bnd h2 (rfl)
theorem gm_e_lstore_n3 {x : UInt8} (h : b.data.toList.drop pc = x :: r) (hx : x.toNat = 66) : decode b pc = .ok (.lstore_n 3, 1) := by
  have h1 := gm_rd1 h
  have h2 := h1.1
  rw [hx] at h2
  refine gm_dcd (show Decoder.instr pc b pc = .ok (.lstore_n 3, pc + 1) from ?_)
  unfold Decoder.instr
  exact gm_bnd h2 (rfl)
theorem gm_e_astore_n0 {x : UInt8} (h : b.data.toList.drop pc = x :: r) (hx : x.toNat = 75) : decode b pc = .ok (.astore_n 0, 1) := by
  have h1 := gm_rd1 h
  have h2 := h1.1
  rw [hx] at h2
  refine gm_dcd (show Decoder.instr pc b pc = .ok (.astore_n 0, pc + 1) from ?_)
  unfold Decoder.instr
  exact gm_bnd h2 (rfl)
theorem gm_e_astore_n1 {x : UInt8} (h : b.data.toList.drop pc = x :: r) (hx : x.toNat = 76) : decode b pc = .ok (.astore_n 1, 1) := by
  have h1 := gm_rd1 h
  have h2 := h1.1
  rw [hx] at h2
  refine gm_dcd (show Decoder.instr pc b pc = .ok (.astore_n 1, pc + 1) from ?_)
  unfold Decoder.instr
  exact gm_bnd h2 (rfl)
theorem gm_e_astore_n2 {x : UInt8} (h : b.data.toList.drop pc = x :: r) (hx : x.toNat = 77) : decode b pc = .ok (.astore_n 2, 1) := by
  have h1 := gm_rd1 h
  have h2 := h1.1
  rw [hx] at h2
  refine gm_dcd (show Decoder.instr pc b pc = .ok (.astore_n 2, pc + 1) from ?_)
  unfold Decoder.instr
  exact gm_bnd h2 (rfl)
theorem gm_e_astore_n3 {x : UInt8} (h : b.data.toList.drop pc = x :: r) (hx : x.toNat = 78) : decode b pc = .ok (.astore_n 3, 1) := by
  have h1 := gm_rd1 h
  have h2 := h1.1
  rw [hx] at h2
  refine gm_dcd (show Decoder.instr pc b pc = .ok (.astore_n 3, pc + 1) from ?_)
  unfold Decoder.instr
  exact gm_bnd h2 (rfl)
theorem gm_e_iconstm1 {x : UInt8} (h : b.data.toList.drop pc = x :: r) (hx : x.toNat = 2) : decode b pc = .ok (.iconst (-1), 1) := by
  have h1 := gm_rd1 h
  have h2 := h1.1
  rw [hx] at h2
  refine gm_dcd (show Decoder.instr pc b pc = .ok (.iconst (-1), pc + 1) from ?_)
  unfold Decoder.instr
  exact gm_bnd h2 (rfl)
theorem gm_e_iconst0 {x : UInt8} (h : b.data.toList.drop pc = x :: r) (hx : x.toNat = 3) : decode b pc = .ok (.iconst (0), 1) := by
  have h1 := gm_rd1 h
  have h2 := h1.1
  rw [hx] at h2
  refine gm_dcd (show Decoder.instr pc b pc = .ok (.iconst (0), pc + 1) from ?_)
  unfold Decoder.instr
  exact gm_bnd h2 (rfl)
theorem gm_e_iconst1 {x : UInt8} (h : b.data.toList.drop pc = x :: r) (hx : x.toNat = 4) : decode b pc = .ok (.iconst (1), 1) := by
  have h1 := gm_rd1 h
  have h2 := h1.1
  rw [hx] at h2
  refine gm_dcd (show Decoder.instr pc b pc = .ok (.iconst (1), pc + 1) from ?_)
  unfold Decoder.instr
  exact gm_bnd h2 (rfl)
theorem gm_e_iconst2 {x : UInt8} (h : b.data.toList.drop pc = x :: r) (hx : x.toNat = 5) : decode b pc = .ok (.iconst (2), 1) := by
  have h1 := gm_rd1 h
  have h2 := h1.1
  rw [hx] at h2
  refine gm_dcd (show Decoder.instr pc b pc = .ok (.iconst (2), pc + 1) from ?_)
  unfold Decoder.instr
  exact gm_bnd h2 (rfl)
theorem gm_e_iconst3 {x : UInt8} (h : b.data.toList.drop pc = x :: r) (hx : x.toNat = 6) : decode b pc = .ok (.iconst (3), 1) := by
  have h1 := gm_rd1 h
  have h2 := h1.1
  rw [hx] at h2
  refine gm_dcd (show Decoder.instr pc b pc = .ok (.iconst (3), pc + 1) from ?_)
  unfold Decoder.instr
  exact gm_bnd h2 (rfl)
theorem gm_e_iconst4 {x : UInt8} (h : b.data.toList.drop pc = x :: r) (hx : x.toNat = 7) : decode b pc = .ok (.iconst (4), 1) := by
  have h1 := gm_rd1 h
  have h2 := h1.1
  rw [hx] at h2
  refine gm_dcd (show Decoder.instr pc b pc = .ok (.iconst (4), pc + 1) from ?_)
  unfold Decoder.instr
  exact gm_bnd h2 (rfl)
theorem gm_e_iconst5 {x : UInt8} (h : b.data.toList.drop pc = x :: r) (hx : x.toNat = 8) : decode b pc = .ok (.iconst (5), 1) := by
  have h1 := gm_rd1 h
  have h2 := h1.1
  rw [hx] at h2
  refine gm_dcd (show Decoder.instr pc b pc = .ok (.iconst (5), pc + 1) from ?_)
  unfold Decoder.instr
  exact gm_bnd h2 (rfl)
theorem gm_e_lconst0 {x : UInt8} (h : b.data.toList.drop pc = x :: r) (hx : x.toNat = 9) : decode b pc = .ok (.lconst 0, 1) := by
  have h1 := gm_rd1 h
  have h2 := h1.1
  rw [hx] at h2
  refine gm_dcd (show Decoder.instr pc b pc = .ok (.lconst 0, pc + 1) from ?_)
  unfold Decoder.instr
  exact gm_bnd h2 (rfl)
theorem gm_e_lconst1 {x : UInt8} (h : b.data.toList.drop pc = x :: r) (hx : x.toNat = 10) : decode b pc = .ok (.lconst 1, 1) := by
  have h1 := gm_rd1 h
  have h2 := h1.1
  rw [hx] at h2
  refine gm_dcd (show Decoder.instr pc b pc = .ok (.lconst 1, pc + 1) from ?_)
  unfold Decoder.instr
  exact gm_bnd h2 (rfl)
theorem gm_e_ldc {x y : UInt8} (h : b.data.toList.drop pc = x :: y :: r) (hx : x.toNat = 18) : decode b pc = .ok (.ldc y.toNat, 2) := by
  have h1 := gm_rd1 h
  have h2 := h1.1
  rw [hx] at h2
  refine gm_dcd (show Decoder.instr pc b pc = .ok (.ldc y.toNat, pc + 2) from ?_)
  unfold Decoder.instr
  exact gm_bnd h2 (show (Reader.u1 >>= fun k => pure (Instr.ldc k) : Decoder Instr) b (pc + 1) = _ from gm_bnd (gm_rd1 h1.2).1 rfl)
theorem gm_e_iload {x y : UInt8} (h : b.data.toList.drop pc = x :: y :: r) (hx : x.toNat = 21) : decode b pc = .ok (.iload y.toNat, 2) := by
  have h1 := gm_rd1 h
  have h2 := h1.1
  rw [hx] at h2
  refine gm_dcd (show Decoder.instr pc b pc = .ok (.iload y.toNat, pc + 2) from ?_)
  unfold Decoder.instr
  exact gm_bnd h2 (show (Reader.u1 >>= fun k => pure (Instr.iload k) : Decoder Instr) b (pc + 1) = _ from gm_bnd (gm_rd1 h1.2).1 rfl)
theorem gm_e_lload {x y : UInt8} (h : b.data.toList.drop pc = x :: y :: r) (hx : x.toNat = 22) : decode b pc = .ok (.lload y.toNat, 2) := by
  have h1 := gm_rd1 h
  have h2 := h1.1
  rw [hx] at h2
  refine gm_dcd (show Decoder.instr pc b pc = .ok (.lload y.toNat, pc + 2) from ?_)
  unfold Decoder.instr
  exact gm_bnd h2 (show (Reader.u1 >>= fun k => pure (Instr.lload k) : Decoder Instr) b (pc + 1) = _ from gm_bnd (gm_rd1 h1.2).1 rfl)
theorem gm_e_aload {x y : UInt8} (h : b.data.toList.drop pc = x :: y :: r) (hx : x.toNat = 25) : decode b pc = .ok (.aload y.toNat, 2) := by
  have h1 := gm_rd1 h
  have h2 := h1.1
  rw [hx] at h2
  refine gm_dcd (show Decoder.instr pc b pc = .ok (.aload y.toNat, pc + 2) from ?_)
  unfold Decoder.instr
  exact gm_bnd h2 (show (Reader.u1 >>= fun k => pure (Instr.aload k) : Decoder Instr) b (pc + 1) = _ from gm_bnd (gm_rd1 h1.2).1 rfl)
theorem gm_e_istore {x y : UInt8} (h : b.data.toList.drop pc = x :: y :: r) (hx : x.toNat = 54) : decode b pc = .ok (.istore y.toNat, 2) := by
  have h1 := gm_rd1 h
  have h2 := h1.1
  rw [hx] at h2
  refine gm_dcd (show Decoder.instr pc b pc = .ok (.istore y.toNat, pc + 2) from ?_)
  unfold Decoder.instr
  exact gm_bnd h2 (show (Reader.u1 >>= fun k => pure (Instr.istore k) : Decoder Instr) b (pc + 1) = _ from gm_bnd (gm_rd1 h1.2).1 rfl)
theorem gm_e_lstore {x y : UInt8} (h : b.data.toList.drop pc = x :: y :: r) (hx : x.toNat = 55) : decode b pc = .ok (.lstore y.toNat, 2) := by
  have h1 := gm_rd1 h
  have h2 := h1.1
  rw [hx] at h2
  refine gm_dcd (show Decoder.instr pc b pc = .ok (.lstore y.toNat, pc + 2) from ?_)
  unfold Decoder.instr
  exact gm_bnd h2 (show (Reader.u1 >>= fun k => pure (Instr.lstore k) : Decoder Instr) b (pc + 1) = _ from gm_bnd (gm_rd1 h1.2).1 rfl)
theorem gm_e_astore {x y : UInt8} (h : b.data.toList.drop pc = x :: y :: r) (hx : x.toNat = 58) : decode b pc = .ok (.astore y.toNat, 2) := by
  have h1 := gm_rd1 h
  have h2 := h1.1
  rw [hx] at h2
  refine gm_dcd (show Decoder.instr pc b pc = .ok (.astore y.toNat, pc + 2) from ?_)
  unfold Decoder.instr
  exact gm_bnd h2 (show (Reader.u1 >>= fun k => pure (Instr.astore k) : Decoder Instr) b (pc + 1) = _ from gm_bnd (gm_rd1 h1.2).1 rfl)
theorem gm_e_bipush {x y : UInt8} (h : b.data.toList.drop pc = x :: y :: r) (hx : x.toNat = 16) : decode b pc = .ok (.bipush (Reader.signed 8 y.toNat), 2) := by
  have h1 := gm_rd1 h
  have h2 := h1.1
  rw [hx] at h2
  refine gm_dcd (show Decoder.instr pc b pc = .ok (.bipush (Reader.signed 8 y.toNat), pc + 2) from ?_)
  unfold Decoder.instr
  exact gm_bnd h2 (show (Reader.s1 >>= fun k => pure (Instr.bipush k) : Decoder Instr) b (pc + 1) = _ from gm_bnd (gm_rds1 h1.2) rfl)
theorem gm_e_sipush {x y z : UInt8} (h : b.data.toList.drop pc = x :: y :: z :: r) (hx : x.toNat = 17) : decode b pc = .ok (.sipush (Reader.signed 16 (y.toNat * 256 + z.toNat)), 3) := by
  have h1 := gm_rd1 h
  have h2 := h1.1
  rw [hx] at h2
  refine gm_dcd (show Decoder.instr pc b pc = .ok (.sipush (Reader.signed 16 (y.toNat * 256 + z.toNat)), pc + 3) from ?_)
  unfold Decoder.instr
  exact gm_bnd h2 (show (Reader.s2 >>= fun k => pure (Instr.sipush k) : Decoder Instr) b (pc + 1) = _ from gm_bnd (gm_rds2 h1.2) rfl)
theorem gm_e_ldc_w {x y z : UInt8} (h : b.data.toList.drop pc = x :: y :: z :: r) (hx : x.toNat = 19) : decode b pc = .ok (.ldc_w (y.toNat * 256 + z.toNat), 3) := by
  have h1 := gm_rd1 h
  have h2 := h1.1
  rw [hx] at h2
  refine gm_dcd (show Decoder.instr pc b pc = .ok (.ldc_w (y.toNat * 256 + z.toNat), pc + 3) from ?_)
  unfold Decoder.instr
  exact gm_bnd h2 (show (Reader.u2 >>= fun k => pure (Instr.ldc_w k) : Decoder Instr) b (pc + 1) = _ from gm_bnd (gm_rd2 h1.2).1 rfl)
theorem gm_e_ldc2_w {x y z : UInt8} (h : b.data.toList.drop pc = x :: y :: z :: r) (hx : x.toNat = 20) : decode b pc = .ok (.ldc2_w (y.toNat * 256 + z.toNat), 3) := by
  have h1 := gm_rd1 h
  have h2 := h1.1
  rw [hx] at h2
  refine gm_dcd (show Decoder.instr pc b pc = .ok (.ldc2_w (y.toNat * 256 + z.toNat), pc + 3) from ?_)
  unfold Decoder.instr
  exact gm_bnd h2 (show (Reader.u2 >>= fun k => pure (Instr.ldc2_w k) : Decoder Instr) b (pc + 1) = _ from gm_bnd (gm_rd2 h1.2).1 rfl)
theorem gm_e_getstatic {x y z : UInt8} (h : b.data.toList.drop pc = x :: y :: z :: r) (hx : x.toNat = 178) : decode b pc = .ok (.getstatic (y.toNat * 256 + z.toNat), 3) := by
  have h1 := gm_rd1 h
  have h2 := h1.1
  rw [hx] at h2
  refine gm_dcd (show Decoder.instr pc b pc = .ok (.getstatic (y.toNat * 256 + z.toNat), pc + 3) from ?_)
  unfold Decoder.instr
  exact gm_bnd h2 (show (Reader.u2 >>= fun k => pure (Instr.getstatic k) : Decoder Instr) b (pc + 1) = _ from gm_bnd (gm_rd2 h1.2).1 rfl)
theorem gm_e_getfield {x y z : UInt8} (h : b.data.toList.drop pc = x :: y :: z :: r) (hx : x.toNat = 180) : decode b pc = .ok (.getfield (y.toNat * 256 + z.toNat), 3) := by
  have h1 := gm_rd1 h
  have h2 := h1.1
  rw [hx] at h2
  refine gm_dcd (show Decoder.instr pc b pc = .ok (.getfield (y.toNat * 256 + z.toNat), pc + 3) from ?_)
  unfold Decoder.instr
  exact gm_bnd h2 (show (Reader.u2 >>= fun k => pure (Instr.getfield k) : Decoder Instr) b (pc + 1) = _ from gm_bnd (gm_rd2 h1.2).1 rfl)
theorem gm_e_putfield {x y z : UInt8} (h : b.data.toList.drop pc = x :: y :: z :: r) (hx : x.toNat = 181) : decode b pc = .ok (.putfield (y.toNat * 256 + z.toNat), 3) := by
  have h1 := gm_rd1 h
  have h2 := h1.1
  rw [hx] at h2
  refine gm_dcd (show Decoder.instr pc b pc = .ok (.putfield (y.toNat * 256 + z.toNat), pc + 3) from ?_)
  unfold Decoder.instr
  exact gm_bnd h2 (show (Reader.u2 >>= fun k => pure (Instr.putfield k) : Decoder Instr) b (pc + 1) = _ from gm_bnd (gm_rd2 h1.2).1 rfl)
theorem gm_e_invokevirtual {x y z : UInt8} (h : b.data.toList.drop pc = x :: y :: z :: r) (hx : x.toNat = 182) : decode b pc = .ok (.invokevirtual (y.toNat * 256 + z.toNat), 3) := by
  have h1 := gm_rd1 h
  have h2 := h1.1
  rw [hx] at h2
  refine gm_dcd (show Decoder.instr pc b pc = .ok (.invokevirtual (y.toNat * 256 + z.toNat), pc + 3) from ?_)
  unfold Decoder.instr
  exact gm_bnd h2 (show (Reader.u2 >>= fun k => pure (Instr.invokevirtual k) : Decoder Instr) b (pc + 1) = _ from gm_bnd (gm_rd2 h1.2).1 rfl)
theorem gm_e_invokespecial {x y z : UInt8} (h : b.data.toList.drop pc = x :: y :: z :: r) (hx : x.toNat = 183) : decode b pc = .ok (.invokespecial (y.toNat * 256 + z.toNat), 3) := by
  have h1 := gm_rd1 h
  have h2 := h1.1
  rw [hx] at h2
  refine gm_dcd (show Decoder.instr pc b pc = .ok (.invokespecial (y.toNat * 256 + z.toNat), pc + 3) from ?_)
  unfold Decoder.instr
  exact gm_bnd h2 (show (Reader.u2 >>= fun k => pure (Instr.invokespecial k) : Decoder Instr) b (pc + 1) = _ from gm_bnd (gm_rd2 h1.2).1 rfl)
theorem gm_e_invokestatic {x y z : UInt8} (h : b.data.toList.drop pc = x :: y :: z :: r) (hx : x.toNat = 184) : decode b pc = .ok (.invokestatic (y.toNat * 256 + z.toNat), 3) := by
  have h1 := gm_rd1 h
  have h2 := h1.1
  rw [hx] at h2
  refine gm_dcd (show Decoder.instr pc b pc = .ok (.invokestatic (y.toNat * 256 + z.toNat), pc + 3) from ?_)
  unfold Decoder.instr
  exact gm_bnd h2 (show (Reader.u2 >>= fun k => pure (Instr.invokestatic k) : Decoder Instr) b (pc + 1) = _ from gm_bnd (gm_rd2 h1.2).1 rfl)
theorem gm_e_new {x y z : UInt8} (h : b.data.toList.drop pc = x :: y :: z :: r) (hx : x.toNat = 187) : decode b pc = .ok (.new (y.toNat * 256 + z.toNat), 3) := by
  have h1 := gm_rd1 h
  have h2 := h1.1
  rw [hx] at h2
  refine gm_dcd (show Decoder.instr pc b pc = .ok (.new (y.toNat * 256 + z.toNat), pc + 3) from ?_)
  unfold Decoder.instr
  exact gm_bnd h2 (show (Reader.u2 >>= fun k => pure (Instr.new k) : Decoder Instr) b (pc + 1) = _ from gm_bnd (gm_rd2 h1.2).1 rfl)
theorem gm_e_anewarray {x y z : UInt8} (h : b.data.toList.drop pc = x :: y :: z :: r) (hx : x.toNat = 189) : decode b pc = .ok (.anewarray (y.toNat * 256 + z.toNat), 3) := by
  have h1 := gm_rd1 h
  have h2 := h1.1
  rw [hx] at h2
  refine gm_dcd (show Decoder.instr pc b pc = .ok (.anewarray (y.toNat * 256 + z.toNat), pc + 3) from ?_)
  unfold Decoder.instr
  exact gm_bnd h2 (show (Reader.u2 >>= fun k => pure (Instr.anewarray k) : Decoder Instr) b (pc + 1) = _ from gm_bnd (gm_rd2 h1.2).1 rfl)
theorem gm_e_checkcast {x y z : UInt8} (h : b.data.toList.drop pc = x :: y :: z :: r) (hx : x.toNat = 192) : decode b pc = .ok (.checkcast (y.toNat * 256 + z.toNat), 3) := by
  have h1 := gm_rd1 h
  have h2 := h1.1
  rw [hx] at h2
  refine gm_dcd (show Decoder.instr pc b pc = .ok (.checkcast (y.toNat * 256 + z.toNat), pc + 3) from ?_)
  unfold Decoder.instr
  exact gm_bnd h2 (show (Reader.u2 >>= fun k => pure (Instr.checkcast k) : Decoder Instr) b (pc + 1) = _ from gm_bnd (gm_rd2 h1.2).1 rfl)
theorem gm_e_goto {x y z : UInt8} (h : b.data.toList.drop pc = x :: y :: z :: r) (hx : x.toNat = 167) : decode b pc = .ok (.goto (Reader.signed 16 (y.toNat * 256 + z.toNat)), 3) := by
  have h1 := gm_rd1 h
  have h2 := h1.1
  rw [hx] at h2
  refine gm_dcd (show Decoder.instr pc b pc = .ok (.goto (Reader.signed 16 (y.toNat * 256 + z.toNat)), pc + 3) from ?_)
  unfold Decoder.instr
  exact gm_bnd h2 (show (Reader.s2 >>= fun k => pure (Instr.goto k) : Decoder Instr) b (pc + 1) = _ from gm_bnd (gm_rds2 h1.2) rfl)
theorem gm_e_ifnull {x y z : UInt8} (h : b.data.toList.drop pc = x :: y :: z :: r) (hx : x.toNat = 198) : decode b pc = .ok (.ifnull (Reader.signed 16 (y.toNat * 256 + z.toNat)), 3) := by
  have h1 := gm_rd1 h
  have h2 := h1.1
  rw [hx] at h2
  refine gm_dcd (show Decoder.instr pc b pc = .ok (.ifnull (Reader.signed 16 (y.toNat * 256 + z.toNat)), pc + 3) from ?_)
  unfold Decoder.instr
  exact gm_bnd h2 (show (Reader.s2 >>= fun k => pure (Instr.ifnull k) : Decoder Instr) b (pc + 1) = _ from gm_bnd (gm_rds2 h1.2) rfl)
theorem gm_e_ifnonnull {x y z : UInt8} (h : b.data.toList.drop pc = x :: y :: z :: r) (hx : x.toNat = 199) : decode b pc = .ok (.ifnonnull (Reader.signed 16 (y.toNat * 256 + z.toNat)), 3) := by
  have h1 := gm_rd1 h
  have h2 := h1.1
  rw [hx] at h2
  refine gm_dcd (show Decoder.instr pc b pc = .ok (.ifnonnull (Reader.signed 16 (y.toNat * 256 + z.toNat)), pc + 3) from ?_)
  unfold Decoder.instr
  exact gm_bnd h2 (show (Reader.s2 >>= fun k => pure (Instr.ifnonnull k) : Decoder Instr) b (pc + 1) = _ from gm_bnd (gm_rds2 h1.2) rfl)
theorem gm_e_ifCond_eq {x y z : UInt8} (h : b.data.toList.drop pc = x :: y :: z :: r) (hx : x.toNat = 153) : decode b pc = .ok (.ifCond .eq (Reader.signed 16 (y.toNat * 256 + z.toNat)), 3) := by
  have h1 := gm_rd1 h
  have h2 := h1.1
  rw [hx] at h2
  refine gm_dcd (show Decoder.instr pc b pc = .ok (.ifCond .eq (Reader.signed 16 (y.toNat * 256 + z.toNat)), pc + 3) from ?_)
  unfold Decoder.instr
  exact gm_bnd h2 (show (Reader.s2 >>= fun k => pure (Instr.ifCond .eq k) : Decoder Instr) b (pc + 1) = _ from gm_bnd (gm_rds2 h1.2) rfl)
theorem gm_e_if_icmp_eq {x y z : UInt8} (h : b.data.toList.drop pc = x :: y :: z :: r) (hx : x.toNat = 159) : decode b pc = .ok (.if_icmp .eq (Reader.signed 16 (y.toNat * 256 + z.toNat)), 3) := by
  have h1 := gm_rd1 h
  have h2 := h1.1
  rw [hx] at h2
  refine gm_dcd (show Decoder.instr pc b pc = .ok (.if_icmp .eq (Reader.signed 16 (y.toNat * 256 + z.toNat)), pc + 3) from ?_)
  unfold Decoder.instr
  exact gm_bnd h2 (show (Reader.s2 >>= fun k => pure (Instr.if_icmp .eq k) : Decoder Instr) b (pc + 1) = _ from gm_bnd (gm_rds2 h1.2) rfl)
theorem gm_e_ifCond_ne {x y z : UInt8} (h : b.data.toList.drop pc = x :: y :: z :: r) (hx : x.toNat = 154) : decode b pc = .ok (.ifCond .ne (Reader.signed 16 (y.toNat * 256 + z.toNat)), 3) := by
  have h1 := gm_rd1 h
  have h2 := h1.1
  rw [hx] at h2
  refine gm_dcd (show Decoder.instr pc b pc = .ok (.ifCond .ne (Reader.signed 16 (y.toNat * 256 + z.toNat)), pc + 3) from ?_)
  unfold Decoder.instr
  exact gm_bnd h2 (show (Reader.s2 >>= fun k => pure (Instr.ifCond .ne k) : Decoder Instr) b (pc + 1) = _ from gm_bnd (gm_rds2 h1.2) rfl)
theorem gm_e_if_icmp_ne {x y z : UInt8} (h : b.data.toList.drop pc = x :: y :: z :: r) (hx : x.toNat = 160) : decode b pc = .ok (.if_icmp .ne (Reader.signed 16 (y.toNat * 256 + z.toNat)), 3) := by
  have h1 := gm_rd1 h
  have h2 := h1.1
  rw [hx] at h2
  refine gm_dcd (show Decoder.instr pc b pc = .ok (.if_icmp .ne (Reader.signed 16 (y.toNat * 256 + z.toNat)), pc + 3) from ?_)
  unfold Decoder.instr
  exact gm_bnd h2 (show (Reader.s2 >>= fun k => pure (Instr.if_icmp .ne k) : Decoder Instr) b (pc + 1) = _ from gm_bnd (gm_rds2 h1.2) rfl)
theorem gm_e_ifCond_lt {x y z : UInt8} (h : b.data.toList.drop pc = x :: y :: z :: r) (hx : x.toNat = 155) : decode b pc = .ok (.ifCond .lt (Reader.signed 16 (y.toNat * 256 + z.toNat)), 3) := by
  have h1 := gm_rd1 h
  have h2 := h1.1
  rw [hx] at h2
  refine gm_dcd (show Decoder.instr pc b pc = .ok (.ifCond .lt (Reader.signed 16 (y.toNat * 256 + z.toNat)), pc + 3) from ?_)
  unfold Decoder.instr
  exact gm_bnd h2 (show (Reader.s2 >>= fun k => pure (Instr.ifCond .lt k) : Decoder Instr) b (pc + 1) = _ from gm_bnd (gm_rds2 h1.2) rfl)
theorem gm_e_if_icmp_lt {x y z : UInt8} (h : b.data.toList.drop pc = x :: y :: z :: r) (hx : x.toNat = 161) : decode b pc = .ok (.if_icmp .lt (Reader.signed 16 (y.toNat * 256 + z.toNat)), 3) := by
  have h1 := gm_rd1 h
  have h2 := h1.1
  rw [hx] at h2
  refine gm_dcd (show Decoder.instr pc b pc = .ok (.if_icmp .lt (Reader.signed 16 (y.toNat * 256 + z.toNat)), pc + 3) from ?_)
  unfold Decoder.instr
  exact gm_bnd h2 (show (Reader.s2 >>= fun k => pure (Instr.if_icmp .lt k) : Decoder Instr) b (pc + 1) = _ from gm_bnd (gm_rds2 h1.2) rfl)
theorem gm_e_ifCond_ge {x y z : UInt8} (h : b.data.toList.drop pc = x :: y :: z :: r) (hx : x.toNat = 156) : decode b pc = .ok (.ifCond .ge (Reader.signed 16 (y.toNat * 256 + z.toNat)), 3) := by
  have h1 := gm_rd1 h
  have h2 := h1.1
  rw [hx] at h2
  refine gm_dcd (show Decoder.instr pc b pc = .ok (.ifCond .ge (Reader.signed 16 (y.toNat * 256 + z.toNat)), pc + 3) from ?_)
  unfold Decoder.instr
  exact gm_bnd h2 (show (Reader.s2 >>= fun k => pure (Instr.ifCond .ge k) : Decoder Instr) b (pc + 1) = _ from gm_bnd (gm_rds2 h1.2) rfl)
theorem gm_e_if_icmp_ge {x y z : UInt8} (h : b.data.toList.drop pc = x :: y :: z :: r) (hx : x.toNat = 162) : decode b pc = .ok (.if_icmp .ge (Reader.signed 16 (y.toNat * 256 + z.toNat)), 3) := by
  have h1 := gm_rd1 h
  have h2 := h1.1
  rw [hx] at h2
  refine gm_dcd (show Decoder.instr pc b pc = .ok (.if_icmp .ge (Reader.signed 16 (y.toNat * 256 + z.toNat)), pc + 3) from ?_)
  unfold Decoder.instr
  exact gm_bnd h2 (show (Reader.s2 >>= fun k => pure (Instr.if_icmp .ge k) : Decoder Instr) b (pc + 1) = _ from gm_bnd (gm_rds2 h1.2) rfl)
theorem gm_e_ifCond_gt {x y z : UInt8} (h : b.data.toList.drop pc = x :: y :: z :: r) (hx : x.toNat = 157) : decode b pc = .ok (.ifCond .gt (Reader.signed 16 (y.toNat * 256 + z.toNat)), 3) := by
  have h1 := gm_rd1 h
  have h2 := h1.1
  rw [hx] at h2
  refine gm_dcd (show Decoder.instr pc b pc = .ok (.ifCond .gt (Reader.signed 16 (y.toNat * 256 + z.toNat)), pc + 3) from ?_)
  unfold Decoder.instr
  exact gm_bnd h2 (show (Reader.s2 >>= fun k => pure (Instr.ifCond .gt k) : Decoder Instr) b (pc + 1) = _ from gm_bnd (gm_rds2 h1.2) rfl)
theorem gm_e_if_icmp_gt {x y z : UInt8} (h : b.data.toList.drop pc = x :: y :: z :: r) (hx : x.toNat = 163) : decode b pc = .ok (.if_icmp .gt (Reader.signed 16 (y.toNat * 256 + z.toNat)), 3) := by
  have h1 := gm_rd1 h
  have h2 := h1.1
  rw [hx] at h2
  refine gm_dcd (show Decoder.instr pc b pc = .ok (.if_icmp .gt (Reader.signed 16 (y.toNat * 256 + z.toNat)), pc + 3) from ?_)
  unfold Decoder.instr
  exact gm_bnd h2 (show (Reader.s2 >>= fun k => pure (Instr.if_icmp .gt k) : Decoder Instr) b (pc + 1) = _ from gm_bnd (gm_rds2 h1.2) rfl)
theorem gm_e_ifCond_le {x y z : UInt8} (h : b.data.toList.drop pc = x :: y :: z :: r) (hx : x.toNat = 158) : decode b pc = .ok (.ifCond .le (Reader.signed 16 (y.toNat * 256 + z.toNat)), 3) := by
  have h1 := gm_rd1 h
  have h2 := h1.1
  rw [hx] at h2
  refine gm_dcd (show Decoder.instr pc b pc = .ok (.ifCond .le (Reader.signed 16 (y.toNat * 256 + z.toNat)), pc + 3) from ?_)
  unfold Decoder.instr
  exact gm_bnd h2 (show (Reader.s2 >>= fun k => pure (Instr.ifCond .le k) : Decoder Instr) b (pc + 1) = _ from gm_bnd (gm_rds2 h1.2) rfl)
theorem gm_e_if_icmp_le {x y z : UInt8} (h : b.data.toList.drop pc = x :: y :: z :: r) (hx : x.toNat = 164) : decode b pc = .ok (.if_icmp .le (Reader.signed 16 (y.toNat * 256 + z.toNat)), 3) := by
  have h1 := gm_rd1 h
  have h2 := h1.1
  rw [hx] at h2
  refine gm_dcd (show Decoder.instr pc b pc = .ok (.if_icmp .le (Reader.signed 16 (y.toNat * 256 + z.toNat)), pc + 3) from ?_)
  unfold Decoder.instr
  exact gm_bnd h2 (show (Reader.s2 >>= fun k => pure (Instr.if_icmp .le k) : Decoder Instr) b (pc + 1) = _ from gm_bnd (gm_rds2 h1.2) rfl)
theorem gm_e_iinc {x y z : UInt8} (h : b.data.toList.drop pc = x :: y :: z :: r) (hx : x.toNat = 132) : decode b pc = .ok (.iinc y.toNat (Reader.signed 8 z.toNat), 3) := by
  have h1 := gm_rd1 h
  have h2 := h1.1
  rw [hx] at h2
  refine gm_dcd (show Decoder.instr pc b pc = .ok (.iinc y.toNat (Reader.signed 8 z.toNat), pc + 3) from ?_)
  unfold Decoder.instr
  exact gm_bnd h2 (show (Reader.u1 >>= fun k => Reader.s1 >>= fun m => pure (Instr.iinc k m) : Decoder Instr) b (pc + 1) = _ from gm_bnd (gm_rd1 h1.2).1 (gm_bnd (gm_rds1 (gm_rd1 h1.2).2) rfl))
theorem gm_e_newarray_boolean {x y : UInt8} (h : b.data.toList.drop pc = x :: y :: r) (hx : x.toNat = 188) (hy : y.toNat = 4) : decode b pc = .ok (.newarray .boolean, 2) := by
  have h1 := gm_rd1 h
  have h2 := h1.1
  rw [hx] at h2
  have h3 := (gm_rd1 h1.2).1
  rw [hy] at h3
  refine gm_dcd (show Decoder.instr pc b pc = .ok (.newarray .boolean, pc + 2) from ?_)
  unfold Decoder.instr
  refine gm_bnd h2 (show Decoder.newarray pc b (pc + 1) = _ from ?_)
  unfold Decoder.newarray
  exact gm_bnd h3 rfl
theorem gm_e_newarray_char {x y : UInt8} (h : b.data.toList.drop pc = x :: y :: r) (hx : x.toNat = 188) (hy : y.toNat = 5) : decode b pc = .ok (.newarray .char, 2) := by
  have h1 := gm_rd1 h
  have h2 := h1.1
  rw [hx] at h2
  have h3 := (gm_rd1 h1.2).1
  rw [hy] at h3
  refine gm_dcd (show Decoder.instr pc b pc = .ok (.newarray .char, pc + 2) from ?_)
  unfold Decoder.instr
  refine gm_bnd h2 (show Decoder.newarray pc b (pc + 1) = _ from ?_)
  unfold Decoder.newarray
  exact gm_bnd h3 rfl
theorem gm_e_newarray_byte {x y : UInt8} (h : b.data.toList.drop pc = x :: y :: r) (hx : x.toNat = 188) (hy : y.toNat = 8) : decode b pc = .ok (.newarray .byte, 2) := by
  have h1 := gm_rd1 h
  have h2 := h1.1
  rw [hx] at h2
  have h3 := (gm_rd1 h1.2).1
  rw [hy] at h3
  refine gm_dcd (show Decoder.instr pc b pc = .ok (.newarray .byte, pc + 2) from ?_)
  unfold Decoder.instr
  refine gm_bnd h2 (show Decoder.newarray pc b (pc + 1) = _ from ?_)
  unfold Decoder.newarray
  exact gm_bnd h3 rfl
theorem gm_e_newarray_int {x y : UInt8} (h : b.data.toList.drop pc = x :: y :: r) (hx : x.toNat = 188) (hy : y.toNat = 10) : decode b pc = .ok (.newarray .int, 2) := by
  have h1 := gm_rd1 h
  have h2 := h1.1
  rw [hx] at h2
  have h3 := (gm_rd1 h1.2).1
  rw [hy] at h3
  refine gm_dcd (show Decoder.instr pc b pc = .ok (.newarray .int, pc + 2) from ?_)
  unfold Decoder.instr
  refine gm_bnd h2 (show Decoder.newarray pc b (pc + 1) = _ from ?_)
  unfold Decoder.newarray
  exact gm_bnd h3 rfl
theorem gm_e_newarray_long {x y : UInt8} (h : b.data.toList.drop pc = x :: y :: r) (hx : x.toNat = 188) (hy : y.toNat = 11) : decode b pc = .ok (.newarray .long, 2) := by
  have h1 := gm_rd1 h
  have h2 := h1.1
  rw [hx] at h2
  have h3 := (gm_rd1 h1.2).1
  rw [hy] at h3
  refine gm_dcd (show Decoder.instr pc b pc = .ok (.newarray .long, pc + 2) from ?_)
  unfold Decoder.instr
  refine gm_bnd h2 (show Decoder.newarray pc b (pc + 1) = _ from ?_)
  unfold Decoder.newarray
  exact gm_bnd h3 rfl
def gm_cdn : ClassFile.Cond → Nat
  | .eq => 0
  | .ne => 1
  | .lt => 2
  | .ge => 3
  | .gt => 4
  | .le => 5
def gm_atn : ArrayType → Nat
  | .int => 10
  | .byte => 8
  | .long => 11
  | .boolean => 4
  | .char => 5
  | _ => 0
/-- shape, opcode, numbers -/
def gm_pat : Instr → Nat × Nat × Int × Int
  | .iaload => (0, 46, 0, 0)
  | .laload => (0, 47, 0, 0)
  | .aaload => (0, 50, 0, 0)
  | .baload => (0, 51, 0, 0)
  | .iastore => (0, 79, 0, 0)
  | .lastore => (0, 80, 0, 0)
  | .aastore => (0, 83, 0, 0)
  | .bastore => (0, 84, 0, 0)
  | .pop => (0, 87, 0, 0)
  | .dup => (0, 89, 0, 0)
  | .dup2 => (0, 92, 0, 0)
  | .iadd => (0, 96, 0, 0)
  | .isub => (0, 100, 0, 0)
  | .imul => (0, 104, 0, 0)
  | .idiv => (0, 108, 0, 0)
  | .irem => (0, 112, 0, 0)
  | .ineg => (0, 116, 0, 0)
  | .ishl => (0, 120, 0, 0)
  | .lshl => (0, 121, 0, 0)
  | .ishr => (0, 122, 0, 0)
  | .iushr => (0, 124, 0, 0)
  | .lushr => (0, 125, 0, 0)
  | .iand => (0, 126, 0, 0)
  | .land => (0, 127, 0, 0)
  | .ior => (0, 128, 0, 0)
  | .lor => (0, 129, 0, 0)
  | .ixor => (0, 130, 0, 0)
  | .lxor => (0, 131, 0, 0)
  | .i2l => (0, 133, 0, 0)
  | .l2i => (0, 136, 0, 0)
  | .i2b => (0, 145, 0, 0)
  | .i2c => (0, 146, 0, 0)
  | .lcmp => (0, 148, 0, 0)
  | .ireturn => (0, 172, 0, 0)
  | .areturn => (0, 176, 0, 0)
  | .return_ => (0, 177, 0, 0)
  | .arraylength => (0, 190, 0, 0)
  | .athrow => (0, 191, 0, 0)
  | .aconst_null => (0, 1, 0, 0)
  | .iload_n q => (0, 26 + q.val, 0, 0)
  | .lload_n q => (0, 30 + q.val, 0, 0)
  | .aload_n q => (0, 42 + q.val, 0, 0)
  | .istore_n q => (0, 59 + q.val, 0, 0)
  | .lstore_n q => (0, 63 + q.val, 0, 0)
  | .astore_n q => (0, 75 + q.val, 0, 0)
  | .iconst z => if -1 ≤ z ∧ z ≤ 5 then (0, (z + 3).toNat, 0, 0) else (9, 0, 0, 0)
  | .lconst q => (0, 9 + q.val, 0, 0)
  | .ldc q => (1, 18, q, 0)
  | .iload q => (1, 21, q, 0)
  | .lload q => (1, 22, q, 0)
  | .aload q => (1, 25, q, 0)
  | .istore q => (1, 54, q, 0)
  | .lstore q => (1, 55, q, 0)
  | .astore q => (1, 58, q, 0)
  | .bipush z => (2, 16, z, 0)
  | .sipush z => (4, 17, z, 0)
  | .ldc_w q => (3, 19, q, 0)
  | .ldc2_w q => (3, 20, q, 0)
  | .getstatic q => (3, 178, q, 0)
  | .getfield q => (3, 180, q, 0)
  | .putfield q => (3, 181, q, 0)
  | .invokevirtual q => (3, 182, q, 0)
  | .invokespecial q => (3, 183, q, 0)
  | .invokestatic q => (3, 184, q, 0)
  | .new q => (3, 187, q, 0)
  | .anewarray q => (3, 189, q, 0)
  | .checkcast q => (3, 192, q, 0)
  | .goto z => (4, 167, z, 0)
  | .ifnull z => (4, 198, z, 0)
  | .ifnonnull z => (4, 199, z, 0)
  | .ifCond c z => (4, 153 + gm_cdn c, z, 0)
  | .if_icmp c z => (4, 159 + gm_cdn c, z, 0)
  | .iinc q z => (5, 132, q, z)
  | .newarray t => if gm_atn t = 0 then (9, 0, 0, 0) else (1, 188, gm_atn t, 0)
  | _ => (9, 0, 0, 0)
theorem gm_fit_ok {pc : Nat} {i : Instr} (hl : b.data.toList.drop pc = l) (h : gm_fit (gm_pat i) l = some (n, r)) : decode b pc = .ok (i, n) ∧ n = gm_len i ∧ b.data.toList.drop (pc + n) = r := by
  subst hl
  have h9 : ∀ {q : Nat × Nat × Int × Int}, q = (9, 0, 0, 0) → gm_fit q (b.data.toList.drop pc) = some (n, r) → False := by
    intro q e hh
    subst e
    cases hh
  cases i with
  | iaload =>
    obtain ⟨x, e, hx, rfl⟩ := gm_g0 h
    exact ⟨gm_e_iaload e hx, rfl, (gm_rd1 e).2⟩
  | laload =>
    obtain ⟨x, e, hx, rfl⟩ := gm_g0 h
    exact ⟨gm_e_laload e hx, rfl, (gm_rd1 e).2⟩
  | aaload =>
    obtain ⟨x, e, hx, rfl⟩ := gm_g0 h
    exact ⟨gm_e_aaload e hx, rfl, (gm_rd1 e).2⟩
  | baload =>
    obtain ⟨x, e, hx, rfl⟩ := gm_g0 h
    exact ⟨gm_e_baload e hx, rfl, (gm_rd1 e).2⟩
  | iastore =>
    obtain ⟨x, e, hx, rfl⟩ := gm_g0 h
    exact ⟨gm_e_iastore e hx, rfl, (gm_rd1 e).2⟩
  | lastore =>
    obtain ⟨x, e, hx, rfl⟩ := gm_g0 h
    exact ⟨gm_e_lastore e hx, rfl, (gm_rd1 e).2⟩
  | aastore =>
    obtain ⟨x, e, hx, rfl⟩ := gm_g0 h
    exact ⟨gm_e_aastore e hx, rfl, (gm_rd1 e).2⟩
  | bastore =>
    obtain ⟨x, e, hx, rfl⟩ := gm_g0 h
    exact ⟨gm_e_bastore e hx, rfl, (gm_rd1 e).2⟩
  | pop =>
    obtain ⟨x, e, hx, rfl⟩ := gm_g0 h
    exact ⟨gm_e_pop e hx, rfl, (gm_rd1 e).2⟩
  | dup =>
    obtain ⟨x, e, hx, rfl⟩ := gm_g0 h
    exact ⟨gm_e_dup e hx, rfl, (gm_rd1 e).2⟩
  | dup2 =>
    obtain ⟨x, e, hx, rfl⟩ := gm_g0 h
    exact ⟨gm_e_dup2 e hx, rfl, (gm_rd1 e).2⟩
  | iadd =>
    obtain ⟨x, e, hx, rfl⟩ := gm_g0 h
    exact ⟨gm_e_iadd e hx, rfl, (gm_rd1 e).2⟩
  | isub =>
    obtain ⟨x, e, hx, rfl⟩ := gm_g0 h
    exact ⟨gm_e_isub e hx, rfl, (gm_rd1 e).2⟩
  | imul =>
    obtain ⟨x, e, hx, rfl⟩ := gm_g0 h
    exact ⟨gm_e_imul e hx, rfl, (gm_rd1 e).2⟩
  | idiv =>
    obtain ⟨x, e, hx, rfl⟩ := gm_g0 h
    exact ⟨gm_e_idiv e hx, rfl, (gm_rd1 e).2⟩
  | irem =>
    obtain ⟨x, e, hx, rfl⟩ := gm_g0 h
    exact ⟨gm_e_irem e hx, rfl, (gm_rd1 e).2⟩
  | ineg =>
    obtain ⟨x, e, hx, rfl⟩ := gm_g0 h
    exact ⟨gm_e_ineg e hx, rfl, (gm_rd1 e).2⟩
  | ishl =>
    obtain ⟨x, e, hx, rfl⟩ := gm_g0 h
    exact ⟨gm_e_ishl e hx, rfl, (gm_rd1 e).2⟩
  | lshl =>
    obtain ⟨x, e, hx, rfl⟩ := gm_g0 h
    exact ⟨gm_e_lshl e hx, rfl, (gm_rd1 e).2⟩
  | ishr =>
    obtain ⟨x, e, hx, rfl⟩ := gm_g0 h
    exact ⟨gm_e_ishr e hx, rfl, (gm_rd1 e).2⟩
  | iushr =>
    obtain ⟨x, e, hx, rfl⟩ := gm_g0 h
    exact ⟨gm_e_iushr e hx, rfl, (gm_rd1 e).2⟩
  | lushr =>
    obtain ⟨x, e, hx, rfl⟩ := gm_g0 h
    exact ⟨gm_e_lushr e hx, rfl, (gm_rd1 e).2⟩
  | iand =>
    obtain ⟨x, e, hx, rfl⟩ := gm_g0 h
    exact ⟨gm_e_iand e hx, rfl, (gm_rd1 e).2⟩
  | land =>
    obtain ⟨x, e, hx, rfl⟩ := gm_g0 h
    exact ⟨gm_e_land e hx, rfl, (gm_rd1 e).2⟩
  | ior =>
    obtain ⟨x, e, hx, rfl⟩ := gm_g0 h
    exact ⟨gm_e_ior e hx, rfl, (gm_rd1 e).2⟩
  | lor =>
    obtain ⟨x, e, hx, rfl⟩ := gm_g0 h
    exact ⟨gm_e_lor e hx, rfl, (gm_rd1 e).2⟩
  | ixor =>
    obtain ⟨x, e, hx, rfl⟩ := gm_g0 h
    exact ⟨gm_e_ixor e hx, rfl, (gm_rd1 e).2⟩
  | lxor =>
    obtain ⟨x, e, hx, rfl⟩ := gm_g0 h
    exact ⟨gm_e_lxor e hx, rfl, (gm_rd1 e).2⟩
  | i2l =>
    obtain ⟨x, e, hx, rfl⟩ := gm_g0 h
    exact ⟨gm_e_i2l e hx, rfl, (gm_rd1 e).2⟩
  | l2i =>
    obtain ⟨x, e, hx, rfl⟩ := gm_g0 h
    exact ⟨gm_e_l2i e hx, rfl, (gm_rd1 e).2⟩
  | i2b =>
    obtain ⟨x, e, hx, rfl⟩ := gm_g0 h
    exact ⟨gm_e_i2b e hx, rfl, (gm_rd1 e).2⟩
  | i2c =>
    obtain ⟨x, e, hx, rfl⟩ := gm_g0 h
    exact ⟨gm_e_i2c e hx, rfl, (gm_rd1 e).2⟩
  | lcmp =>
    obtain ⟨x, e, hx, rfl⟩ := gm_g0 h
    exact ⟨gm_e_lcmp e hx, rfl, (gm_rd1 e).2⟩
  | ireturn =>
    obtain ⟨x, e, hx, rfl⟩ := gm_g0 h
    exact ⟨gm_e_ireturn e hx, rfl, (gm_rd1 e).2⟩
  | areturn =>
    obtain ⟨x, e, hx, rfl⟩ := gm_g0 h
    exact ⟨gm_e_areturn e hx, rfl, (gm_rd1 e).2⟩
  | return_ =>
    obtain ⟨x, e, hx, rfl⟩ := gm_g0 h
    exact ⟨gm_e_return_ e hx, rfl, (gm_rd1 e).2⟩
  | arraylength =>
    obtain ⟨x, e, hx, rfl⟩ := gm_g0 h
    exact ⟨gm_e_arraylength e hx, rfl, (gm_rd1 e).2⟩
  | athrow =>
    obtain ⟨x, e, hx, rfl⟩ := gm_g0 h
    exact ⟨gm_e_athrow e hx, rfl, (gm_rd1 e).2⟩
  | aconst_null =>
    obtain ⟨x, e, hx, rfl⟩ := gm_g0 h
    exact ⟨gm_e_aconst_null e hx, rfl, (gm_rd1 e).2⟩
  | iload_n q =>
    obtain ⟨x, e, hx, rfl⟩ := gm_g0 h
    match q, hx with
    | 0, hx => exact ⟨gm_e_iload_n0 e hx, rfl, (gm_rd1 e).2⟩
    | 1, hx => exact ⟨gm_e_iload_n1 e hx, rfl, (gm_rd1 e).2⟩
    | 2, hx => exact ⟨gm_e_iload_n2 e hx, rfl, (gm_rd1 e).2⟩
    | 3, hx => exact ⟨gm_e_iload_n3 e hx, rfl, (gm_rd1 e).2⟩
  | lload_n q =>
    obtain ⟨x, e, hx, rfl⟩ := gm_g0 h
    match q, hx with
    | 0, hx => exact ⟨gm_e_lload_n0 e hx, rfl, (gm_rd1 e).2⟩
    | 1, hx => exact ⟨gm_e_lload_n1 e hx, rfl, (gm_rd1 e).2⟩
    | 2, hx => exact ⟨gm_e_lload_n2 e hx, rfl, (gm_rd1 e).2⟩
    | 3, hx => exact ⟨gm_e_lload_n3 e hx, rfl, (gm_rd1 e).2⟩
  | aload_n q =>
    obtain ⟨x, e, hx, rfl⟩ := gm_g0 h
    match q, hx with
    | 0, hx => exact ⟨gm_e_aload_n0 e hx, rfl, (gm_rd1 e).2⟩
    | 1, hx => exact ⟨gm_e_aload_n1 e hx, rfl, (gm_rd1 e).2⟩
    | 2, hx => exact ⟨gm_e_aload_n2 e hx, rfl, (gm_rd1 e).2⟩
    | 3, hx => exact ⟨gm_e_aload_n3 e hx, rfl, (gm_rd1 e).2⟩
  | istore_n q =>
    obtain ⟨x, e, hx, rfl⟩ := gm_g0 h
    match q, hx with
    | 0, hx => exact ⟨gm_e_istore_n0 e hx, rfl, (gm_rd1 e).2⟩
    | 1, hx => exact ⟨gm_e_istore_n1 e hx, rfl, (gm_rd1 e).2⟩
    | 2, hx => exact ⟨gm_e_istore_n2 e hx, rfl, (gm_rd1 e).2⟩
    | 3, hx => exact ⟨gm_e_istore_n3 e hx, rfl, (gm_rd1 e).2⟩
  | lstore_n q =>
    obtain ⟨x, e, hx, rfl⟩ := gm_g0 h
    match q, hx with
    | 0, hx => exact ⟨gm_e_lstore_n0 e hx, rfl, (gm_rd1 e).2⟩
    | 1, hx => exact ⟨gm_e_lstore_n1 e hx, rfl, (gm_rd1 e).2⟩
    | 2, hx => exact ⟨gm_e_lstore_n2 e hx, rfl, (gm_rd1 e).2⟩
    | 3, hx => exact ⟨gm_e_lstore_n3 e hx, rfl, (gm_rd1 e).2⟩
  | astore_n q =>
    obtain ⟨x, e, hx, rfl⟩ := gm_g0 h
    match q, hx with
    | 0, hx => exact ⟨gm_e_astore_n0 e hx, rfl, (gm_rd1 e).2⟩
    | 1, hx => exact ⟨gm_e_astore_n1 e hx, rfl, (gm_rd1 e).2⟩
    | 2, hx => exact ⟨gm_e_astore_n2 e hx, rfl, (gm_rd1 e).2⟩
    | 3, hx => exact ⟨gm_e_astore_n3 e hx, rfl, (gm_rd1 e).2⟩
  | iconst z =>
    by_cases hz : -1 ≤ z ∧ z ≤ 5
    · have h : gm_fit (if -1 ≤ z ∧ z ≤ 5 then (0, (z + 3).toNat, 0, 0) else (9, 0, 0, 0)) (b.data.toList.drop pc) = some (n, r) := h
      rw [if_pos hz] at h
      obtain ⟨x, e, hx, rfl⟩ := gm_g0 h
      rcases (by omega : z = -1 ∨ z = 0 ∨ z = 1 ∨ z = 2 ∨ z = 3 ∨ z = 4 ∨ z = 5) with rfl | rfl | rfl | rfl | rfl | rfl | rfl
      · exact ⟨gm_e_iconstm1 e hx, rfl, (gm_rd1 e).2⟩
      · exact ⟨gm_e_iconst0 e hx, rfl, (gm_rd1 e).2⟩
      · exact ⟨gm_e_iconst1 e hx, rfl, (gm_rd1 e).2⟩
      · exact ⟨gm_e_iconst2 e hx, rfl, (gm_rd1 e).2⟩
      · exact ⟨gm_e_iconst3 e hx, rfl, (gm_rd1 e).2⟩
      · exact ⟨gm_e_iconst4 e hx, rfl, (gm_rd1 e).2⟩
      · exact ⟨gm_e_iconst5 e hx, rfl, (gm_rd1 e).2⟩
    · have h : gm_fit (if -1 ≤ z ∧ z ≤ 5 then (0, (z + 3).toNat, 0, 0) else (9, 0, 0, 0)) (b.data.toList.drop pc) = some (n, r) := h
      rw [if_neg hz] at h
      exact (h9 rfl h).elim
  | lconst q =>
    obtain ⟨x, e, hx, rfl⟩ := gm_g0 h
    match q, hx with
    | 0, hx => exact ⟨gm_e_lconst0 e hx, rfl, (gm_rd1 e).2⟩
    | 1, hx => exact ⟨gm_e_lconst1 e hx, rfl, (gm_rd1 e).2⟩
  | ldc q =>
    have h : gm_f1 18 (q : Int) (b.data.toList.drop pc) = some (n, r) := h
    obtain ⟨x, y, e, hx, hy, rfl⟩ := gm_g1 h
    obtain rfl : y.toNat = q := by omega
    exact ⟨gm_e_ldc e hx, rfl, (gm_rd1 (gm_rd1 e).2).2⟩
  | iload q =>
    have h : gm_f1 21 (q : Int) (b.data.toList.drop pc) = some (n, r) := h
    obtain ⟨x, y, e, hx, hy, rfl⟩ := gm_g1 h
    obtain rfl : y.toNat = q := by omega
    exact ⟨gm_e_iload e hx, rfl, (gm_rd1 (gm_rd1 e).2).2⟩
  | lload q =>
    have h : gm_f1 22 (q : Int) (b.data.toList.drop pc) = some (n, r) := h
    obtain ⟨x, y, e, hx, hy, rfl⟩ := gm_g1 h
    obtain rfl : y.toNat = q := by omega
    exact ⟨gm_e_lload e hx, rfl, (gm_rd1 (gm_rd1 e).2).2⟩
  | aload q =>
    have h : gm_f1 25 (q : Int) (b.data.toList.drop pc) = some (n, r) := h
    obtain ⟨x, y, e, hx, hy, rfl⟩ := gm_g1 h
    obtain rfl : y.toNat = q := by omega
    exact ⟨gm_e_aload e hx, rfl, (gm_rd1 (gm_rd1 e).2).2⟩
  | istore q =>
    have h : gm_f1 54 (q : Int) (b.data.toList.drop pc) = some (n, r) := h
    obtain ⟨x, y, e, hx, hy, rfl⟩ := gm_g1 h
    obtain rfl : y.toNat = q := by omega
    exact ⟨gm_e_istore e hx, rfl, (gm_rd1 (gm_rd1 e).2).2⟩
  | lstore q =>
    have h : gm_f1 55 (q : Int) (b.data.toList.drop pc) = some (n, r) := h
    obtain ⟨x, y, e, hx, hy, rfl⟩ := gm_g1 h
    obtain rfl : y.toNat = q := by omega
    exact ⟨gm_e_lstore e hx, rfl, (gm_rd1 (gm_rd1 e).2).2⟩
  | astore q =>
    have h : gm_f1 58 (q : Int) (b.data.toList.drop pc) = some (n, r) := h
    obtain ⟨x, y, e, hx, hy, rfl⟩ := gm_g1 h
    obtain rfl : y.toNat = q := by omega
    exact ⟨gm_e_astore e hx, rfl, (gm_rd1 (gm_rd1 e).2).2⟩
  | bipush z =>
    have h : gm_f2 16 z (b.data.toList.drop pc) = some (n, r) := h
    obtain ⟨x, y, e, hx, rfl, rfl⟩ := gm_g2 h
    exact ⟨gm_e_bipush e hx, rfl, (gm_rd1 (gm_rd1 e).2).2⟩
  | sipush z =>
    have h : gm_f4 17 z (b.data.toList.drop pc) = some (n, r) := h
    obtain ⟨x, y, w, e, hx, rfl, rfl⟩ := gm_g4 h
    exact ⟨gm_e_sipush e hx, rfl, (gm_rd1 (gm_rd1 (gm_rd1 e).2).2).2⟩
  | ldc_w q =>
    have h : gm_f3 19 (q : Int) (b.data.toList.drop pc) = some (n, r) := h
    obtain ⟨x, y, z, e, hx, hy, rfl⟩ := gm_g3 h
    obtain rfl : y.toNat * 256 + z.toNat = q := by omega
    exact ⟨gm_e_ldc_w e hx, rfl, (gm_rd1 (gm_rd1 (gm_rd1 e).2).2).2⟩
  | ldc2_w q =>
    have h : gm_f3 20 (q : Int) (b.data.toList.drop pc) = some (n, r) := h
    obtain ⟨x, y, z, e, hx, hy, rfl⟩ := gm_g3 h
    obtain rfl : y.toNat * 256 + z.toNat = q := by omega
    exact ⟨gm_e_ldc2_w e hx, rfl, (gm_rd1 (gm_rd1 (gm_rd1 e).2).2).2⟩
  | getstatic q =>
    have h : gm_f3 178 (q : Int) (b.data.toList.drop pc) = some (n, r) := h
    obtain ⟨x, y, z, e, hx, hy, rfl⟩ := gm_g3 h
    obtain rfl : y.toNat * 256 + z.toNat = q := by omega
    exact ⟨gm_e_getstatic e hx, rfl, (gm_rd1 (gm_rd1 (gm_rd1 e).2).2).2⟩
  | getfield q =>
    have h : gm_f3 180 (q : Int) (b.data.toList.drop pc) = some (n, r) := h
    obtain ⟨x, y, z, e, hx, hy, rfl⟩ := gm_g3 h
    obtain rfl : y.toNat * 256 + z.toNat = q := by omega
    exact ⟨gm_e_getfield e hx, rfl, (gm_rd1 (gm_rd1 (gm_rd1 e).2).2).2⟩
  | putfield q =>
    have h : gm_f3 181 (q : Int) (b.data.toList.drop pc) = some (n, r) := h
    obtain ⟨x, y, z, e, hx, hy, rfl⟩ := gm_g3 h
    obtain rfl : y.toNat * 256 + z.toNat = q := by omega
    exact ⟨gm_e_putfield e hx, rfl, (gm_rd1 (gm_rd1 (gm_rd1 e).2).2).2⟩
  | invokevirtual q =>
    have h : gm_f3 182 (q : Int) (b.data.toList.drop pc) = some (n, r) := h
    obtain ⟨x, y, z, e, hx, hy, rfl⟩ := gm_g3 h
    obtain rfl : y.toNat * 256 + z.toNat = q := by omega
    exact ⟨gm_e_invokevirtual e hx, rfl, (gm_rd1 (gm_rd1 (gm_rd1 e).2).2).2⟩
  | invokespecial q =>
    have h : gm_f3 183 (q : Int) (b.data.toList.drop pc) = some (n, r) := h
    obtain ⟨x, y, z, e, hx, hy, rfl⟩ := gm_g3 h
    obtain rfl : y.toNat * 256 + z.toNat = q := by omega
    exact ⟨gm_e_invokespecial e hx, rfl, (gm_rd1 (gm_rd1 (gm_rd1 e).2).2).2⟩
  | invokestatic q =>
    have h : gm_f3 184 (q : Int) (b.data.toList.drop pc) = some (n, r) := h
    obtain ⟨x, y, z, e, hx, hy, rfl⟩ := gm_g3 h
    obtain rfl : y.toNat * 256 + z.toNat = q := by omega
    exact ⟨gm_e_invokestatic e hx, rfl, (gm_rd1 (gm_rd1 (gm_rd1 e).2).2).2⟩
  | new q =>
    have h : gm_f3 187 (q : Int) (b.data.toList.drop pc) = some (n, r) := h
    obtain ⟨x, y, z, e, hx, hy, rfl⟩ := gm_g3 h
    obtain rfl : y.toNat * 256 + z.toNat = q := by omega
    exact ⟨gm_e_new e hx, rfl, (gm_rd1 (gm_rd1 (gm_rd1 e).2).2).2⟩
  | anewarray q =>
    have h : gm_f3 189 (q : Int) (b.data.toList.drop pc) = some (n, r) := h
    obtain ⟨x, y, z, e, hx, hy, rfl⟩ := gm_g3 h
    obtain rfl : y.toNat * 256 + z.toNat = q := by omega
    exact ⟨gm_e_anewarray e hx, rfl, (gm_rd1 (gm_rd1 (gm_rd1 e).2).2).2⟩
  | checkcast q =>
    have h : gm_f3 192 (q : Int) (b.data.toList.drop pc) = some (n, r) := h
    obtain ⟨x, y, z, e, hx, hy, rfl⟩ := gm_g3 h
    obtain rfl : y.toNat * 256 + z.toNat = q := by omega
    exact ⟨gm_e_checkcast e hx, rfl, (gm_rd1 (gm_rd1 (gm_rd1 e).2).2).2⟩
  | goto z =>
    have h : gm_f4 167 z (b.data.toList.drop pc) = some (n, r) := h
    obtain ⟨x, y, w, e, hx, rfl, rfl⟩ := gm_g4 h
    exact ⟨gm_e_goto e hx, rfl, (gm_rd1 (gm_rd1 (gm_rd1 e).2).2).2⟩
  | ifnull z =>
    have h : gm_f4 198 z (b.data.toList.drop pc) = some (n, r) := h
    obtain ⟨x, y, w, e, hx, rfl, rfl⟩ := gm_g4 h
    exact ⟨gm_e_ifnull e hx, rfl, (gm_rd1 (gm_rd1 (gm_rd1 e).2).2).2⟩
  | ifnonnull z =>
    have h : gm_f4 199 z (b.data.toList.drop pc) = some (n, r) := h
    obtain ⟨x, y, w, e, hx, rfl, rfl⟩ := gm_g4 h
    exact ⟨gm_e_ifnonnull e hx, rfl, (gm_rd1 (gm_rd1 (gm_rd1 e).2).2).2⟩
  | ifCond c z =>
    have h : gm_f4 (153 + gm_cdn c) z (b.data.toList.drop pc) = some (n, r) := h
    obtain ⟨x, y, w, e, hx, rfl, rfl⟩ := gm_g4 h
    match c, hx with
    | .eq, hx => exact ⟨gm_e_ifCond_eq e hx, rfl, (gm_rd1 (gm_rd1 (gm_rd1 e).2).2).2⟩
    | .ne, hx => exact ⟨gm_e_ifCond_ne e hx, rfl, (gm_rd1 (gm_rd1 (gm_rd1 e).2).2).2⟩
    | .lt, hx => exact ⟨gm_e_ifCond_lt e hx, rfl, (gm_rd1 (gm_rd1 (gm_rd1 e).2).2).2⟩
    | .ge, hx => exact ⟨gm_e_ifCond_ge e hx, rfl, (gm_rd1 (gm_rd1 (gm_rd1 e).2).2).2⟩
    | .gt, hx => exact ⟨gm_e_ifCond_gt e hx, rfl, (gm_rd1 (gm_rd1 (gm_rd1 e).2).2).2⟩
    | .le, hx => exact ⟨gm_e_ifCond_le e hx, rfl, (gm_rd1 (gm_rd1 (gm_rd1 e).2).2).2⟩
  | if_icmp c z =>
    have h : gm_f4 (159 + gm_cdn c) z (b.data.toList.drop pc) = some (n, r) := h
    obtain ⟨x, y, w, e, hx, rfl, rfl⟩ := gm_g4 h
    match c, hx with
    | .eq, hx => exact ⟨gm_e_if_icmp_eq e hx, rfl, (gm_rd1 (gm_rd1 (gm_rd1 e).2).2).2⟩
    | .ne, hx => exact ⟨gm_e_if_icmp_ne e hx, rfl, (gm_rd1 (gm_rd1 (gm_rd1 e).2).2).2⟩
    | .lt, hx => exact ⟨gm_e_if_icmp_lt e hx, rfl, (gm_rd1 (gm_rd1 (gm_rd1 e).2).2).2⟩
    | .ge, hx => exact ⟨gm_e_if_icmp_ge e hx, rfl, (gm_rd1 (gm_rd1 (gm_rd1 e).2).2).2⟩
    | .gt, hx => exact ⟨gm_e_if_icmp_gt e hx, rfl, (gm_rd1 (gm_rd1 (gm_rd1 e).2).2).2⟩
    | .le, hx => exact ⟨gm_e_if_icmp_le e hx, rfl, (gm_rd1 (gm_rd1 (gm_rd1 e).2).2).2⟩
  | iinc q z =>
    have h : gm_f5 132 (q : Int) z (b.data.toList.drop pc) = some (n, r) := h
    obtain ⟨x, y, w, e, hx, hy, rfl, rfl⟩ := gm_g5 h
    obtain rfl : y.toNat = q := by omega
    exact ⟨gm_e_iinc e hx, rfl, (gm_rd1 (gm_rd1 (gm_rd1 e).2).2).2⟩
  | newarray t =>
    cases t with
    | int =>
      have h : gm_f1 188 ((10 : Nat) : Int) (b.data.toList.drop pc) = some (n, r) := h
      obtain ⟨x, y, e, hx, hy, rfl⟩ := gm_g1 h
      exact ⟨gm_e_newarray_int e hx (Int.ofNat.inj hy), rfl, (gm_rd1 (gm_rd1 e).2).2⟩
    | byte =>
      have h : gm_f1 188 ((8 : Nat) : Int) (b.data.toList.drop pc) = some (n, r) := h
      obtain ⟨x, y, e, hx, hy, rfl⟩ := gm_g1 h
      exact ⟨gm_e_newarray_byte e hx (Int.ofNat.inj hy), rfl, (gm_rd1 (gm_rd1 e).2).2⟩
    | long =>
      have h : gm_f1 188 ((11 : Nat) : Int) (b.data.toList.drop pc) = some (n, r) := h
      obtain ⟨x, y, e, hx, hy, rfl⟩ := gm_g1 h
      exact ⟨gm_e_newarray_long e hx (Int.ofNat.inj hy), rfl, (gm_rd1 (gm_rd1 e).2).2⟩
    | boolean =>
      have h : gm_f1 188 ((4 : Nat) : Int) (b.data.toList.drop pc) = some (n, r) := h
      obtain ⟨x, y, e, hx, hy, rfl⟩ := gm_g1 h
      exact ⟨gm_e_newarray_boolean e hx (Int.ofNat.inj hy), rfl, (gm_rd1 (gm_rd1 e).2).2⟩
    | char =>
      have h : gm_f1 188 ((5 : Nat) : Int) (b.data.toList.drop pc) = some (n, r) := h
      obtain ⟨x, y, e, hx, hy, rfl⟩ := gm_g1 h
      exact ⟨gm_e_newarray_char e hx (Int.ofNat.inj hy), rfl, (gm_rd1 (gm_rd1 e).2).2⟩
    | _ => exact (h9 rfl h).elim
  | _ => exact (h9 rfl h).elim
/-! the walk over a method's bytes -/
def gm_w1 (b : ByteArray) (q : Nat × Instr) (s : Nat × List UInt8) : Option (Nat × List UInt8) :=
  bif Nat.ble s.1 q.1 then (match gm_fit (gm_pat q.2) (s.2.drop (Nat.sub q.1 s.1)) with
    | some t => some (Nat.add q.1 t.1, t.2)
    | none => bif gm_ck1 b q then some (q.1, s.2.drop (Nat.sub q.1 s.1)) else none) else none
def gm_wr (b : ByteArray) : List (Nat × Instr) → Nat × List UInt8 → Option (Nat × List UInt8)
  | [], s => some s
  | q :: t, s => match gm_w1 b q s with
    | some u => gm_wr b t u
    | none => none
def gm_wkl (b : ByteArray) : List (List (Nat × Instr)) → Nat × List UInt8 → Bool
  | [], _ => true
  | t :: m, s => match gm_wr b t s with
    | some u => gm_wkl b m u
    | none => false
def gm_wk (b : ByteArray) (m : List (List (Nat × Instr))) : Bool := gm_wkl b m (0, b.data.toList)
theorem gm_w1_ok {q : Nat × Instr} {s u : Nat × List UInt8} (hs : b.data.toList.drop s.1 = s.2) (h : gm_w1 b q s = some u) : gm_ck1 b q = true ∧ b.data.toList.drop u.1 = u.2 := by
  unfold gm_w1 at h
  cases e : Nat.ble s.1 q.1 with
  | false => rw [e] at h; cases h
  | true =>
    rw [e] at h
    have hle := Nat.le_of_ble_eq_true e
    have hd : b.data.toList.drop q.1 = s.2.drop (Nat.sub q.1 s.1) := by
      rw [← hs, List.drop_drop]
      congr 1
      show q.1 = s.1 + (q.1 - s.1)
      omega
    have h : (match gm_fit (gm_pat q.2) (s.2.drop (Nat.sub q.1 s.1)) with
      | some t => some (Nat.add q.1 t.1, t.2)
      | none => bif gm_ck1 b q then some (q.1, s.2.drop (Nat.sub q.1 s.1)) else none) = some u := h
    cases e2 : gm_fit (gm_pat q.2) (s.2.drop (Nat.sub q.1 s.1)) with
    | some t =>
      rw [e2] at h
      have h := Option.some.inj h
      subst h
      obtain ⟨k1, k2, k3⟩ := gm_fit_ok (r := t.2) (n := t.1) hd e2
      refine ⟨?_, k3⟩
      unfold gm_ck1
      rw [k1]
      show (decide (q.2 = q.2) && (gm_sw q.2 || decide (t.1 = gm_len q.2))) = true
      rw [k2]
      simp
    | none =>
      rw [e2] at h
      cases e3 : gm_ck1 b q with
      | false => rw [e3] at h; cases h
      | true =>
        rw [e3] at h
        have h := Option.some.inj h
        subst h
        exact ⟨rfl, hd⟩
theorem gm_wr_ok : ∀ {t : List (Nat × Instr)} {s u : Nat × List UInt8}, b.data.toList.drop s.1 = s.2 → gm_wr b t s = some u → t.all (gm_ck1 b) = true ∧ b.data.toList.drop u.1 = u.2
  | [], s, u, hs, h => by cases h; exact ⟨rfl, hs⟩
  | q :: t, s, u, hs, h => by
    unfold gm_wr at h
    cases e : gm_w1 b q s with
    | none => rw [e] at h; cases h
    | some v =>
      rw [e] at h
      have h1 := gm_w1_ok hs e
      have h2 := gm_wr_ok h1.2 h
      exact ⟨by rw [List.all_cons, h1.1, h2.1]; rfl, h2.2⟩
theorem gm_wkl_ok : ∀ {m : List (List (Nat × Instr))} {s : Nat × List UInt8}, b.data.toList.drop s.1 = s.2 → gm_wkl b m s = true → gm_ckm b m = true
  | [], _, _, _ => rfl
  | t :: m, s, hs, h => by
    unfold gm_wkl at h
    cases e : gm_wr b t s with
    | none => rw [e] at h; cases h
    | some v =>
      rw [e] at h
      have h1 := gm_wr_ok hs e
      have h2 := gm_wkl_ok h1.2 h
      show (t.all (gm_ck1 b) && gm_ckm b m) = true
      rw [h1.1, h2]
      rfl
theorem gm_wk_ok {m : List (List (Nat × Instr))} (h : gm_wk b m = true) : gm_ckm b m = true := gm_wkl_ok (s := (0, b.data.toList)) rfl h
end DEC
end
/-! 01a1.mn -/
section
/-! INSTRUCTION TABLES, laid by wip/am/gen_tables.py, and the check that they are what the code decodes to. -/
def gm_m0 : List (List (Nat × Instr)) := [[(0, .new 8), (3, .dup), (4, .invokespecial 135), (7, .astore_n 1), (8, .new 136), (11, .dup), (12, .invokespecial 138), (15, .astore_n 2), (16, .iconst 1), (17, .newarray .long), (19, .astore_n 3), (20, .iconst 0), (21, .istore 4), (23, .iload 4), (25, .aload_n 0), (26, .arraylength), (27, .bipush 6), (29, .isub), (30, .if_icmp .gt 1941)], [(33, .aload_n 0), (34, .iload 4), (36, .iaload), (37, .bipush 63), (39, .iand), (40, .tableswitch 1925 0 46 #[204, 277, 302, 318, 334, 347, 375, 415, 467, 507, 547, 587, 627, 667, 707, 735, 763, 827, 867, 907, 947, 975, 988, 1029, 1057, 1109, 1173, 1213, 1265, 1278, 1294, 1362, 1414, 1454, 1510, 1566, 1606, 1634, 1659, 1715, 1755, 1795, 1823, 1863, 1876, 1887, 1900])]]
def gm_m1 : List (List (Nat × Instr)) := [[], []]
def gm_m2 : List (List (Nat × Instr)) := [[], []]
def gm_m3 : List (List (Nat × Instr)) := [[], [(244, .aload_n 1), (245, .aload_n 0), (246, .iload 4), (248, .iconst 1), (249, .iadd), (250, .iaload), (251, .aload_n 0), (252, .iload 4), (254, .iconst 2), (255, .iadd)]]
def gm_m4 : List (List (Nat × Instr)) := [[(256, .iaload), (257, .aload_n 0), (258, .iload 4), (260, .iconst 3), (261, .iadd), (262, .iaload), (263, .aload_n 0), (264, .iload 4), (266, .iconst 4), (267, .iadd), (268, .iaload), (269, .aload_n 0), (270, .iload 4), (272, .iconst 5), (273, .iadd), (274, .iaload), (275, .invokevirtual 139), (278, .pop), (279, .aload_n 2), (280, .aload_n 0), (281, .iload 4), (283, .iconst 1), (284, .iadd), (285, .iaload), (286, .aload_n 0), (287, .iload 4)], [(289, .iconst 2), (290, .iadd), (291, .iaload), (292, .aload_n 0), (293, .iload 4), (295, .iconst 3), (296, .iadd), (297, .iaload), (298, .aload_n 0), (299, .iload 4), (301, .iconst 4), (302, .iadd), (303, .iaload), (304, .aload_n 0), (305, .iload 4), (307, .iconst 5), (308, .iadd), (309, .iaload), (310, .invokevirtual 143), (313, .pop), (314, .goto 1651), (317, .aload_n 1), (318, .aload_n 0), (319, .iload 4)]]
def gm_m5 : List (List (Nat × Instr)) := [[(321, .iconst 1), (322, .iadd), (323, .iaload), (324, .invokevirtual 144), (327, .pop), (328, .aload_n 2), (329, .aload_n 0), (330, .iload 4), (332, .iconst 1), (333, .iadd), (334, .iaload), (335, .invokevirtual 148), (338, .pop), (339, .goto 1626), (342, .aload_n 1), (343, .aload_n 3), (344, .invokestatic 149), (347, .istore 5), (349, .aload_n 2), (350, .invokevirtual 154)], [(353, .istore 6), (355, .goto 1610), (358, .aload_n 1), (359, .aload_n 3), (360, .invokestatic 155), (363, .istore 5), (365, .aload_n 2), (366, .invokevirtual 157), (369, .istore 6), (371, .goto 1594), (374, .aload_n 1), (375, .invokevirtual 158), (378, .pop), (379, .aload_n 2), (380, .invokevirtual 161), (383, .pop)]]
def gm_m6 : List (List (Nat × Instr)) := [[(384, .goto 1581), (387, .aload_n 1), (388, .aload_n 0), (389, .iload 4), (391, .iconst 1), (392, .iadd), (393, .iaload), (394, .aload_n 3), (395, .invokestatic 162), (398, .istore 5), (400, .aload_n 2), (401, .aload_n 0), (402, .iload 4), (404, .iconst 1), (405, .iadd), (406, .iaload), (407, .invokevirtual 165), (410, .istore 6), (412, .goto 1553), (415, .aload_n 1)], [(416, .aload_n 0), (417, .iload 4), (419, .iconst 1), (420, .iadd), (421, .iaload), (422, .aload_n 0), (423, .iload 4), (425, .iconst 2), (426, .iadd), (427, .iaload), (428, .aload_n 3), (429, .invokestatic 166), (432, .istore 5), (434, .aload_n 2), (435, .aload_n 0), (436, .iload 4), (438, .iconst 1), (439, .iadd), (440, .iaload), (441, .aload_n 0), (442, .iload 4), (444, .iconst 2), (445, .iadd), (446, .iaload), (447, .invokevirtual 169)]]
def gm_m7 : List (List (Nat × Instr)) := [[(450, .istore 6), (452, .goto 1513), (455, .aload_n 1), (456, .aload_n 0), (457, .iload 4), (459, .iconst 1), (460, .iadd), (461, .iaload), (462, .aload_n 0), (463, .iload 4), (465, .iconst 2), (466, .iadd), (467, .iaload), (468, .aload_n 0), (469, .iload 4), (471, .iconst 3), (472, .iadd), (473, .iaload), (474, .aload_n 3), (475, .invokestatic 170), (478, .istore 5)], [(480, .aload_n 2), (481, .aload_n 0), (482, .iload 4), (484, .iconst 1), (485, .iadd), (486, .iaload), (487, .aload_n 0), (488, .iload 4), (490, .iconst 2), (491, .iadd), (492, .iaload), (493, .aload_n 0), (494, .iload 4), (496, .iconst 3), (497, .iadd), (498, .iaload), (499, .invokevirtual 173), (502, .istore 6), (504, .goto 1461), (507, .aload_n 1), (508, .aload_n 0), (509, .iload 4), (511, .iconst 1)]]
def gm_m8 : List (List (Nat × Instr)) := [[(512, .iadd), (513, .iaload), (514, .aload_n 0), (515, .iload 4), (517, .iconst 2), (518, .iadd), (519, .iaload), (520, .aload_n 3), (521, .invokestatic 174), (524, .istore 5), (526, .aload_n 2), (527, .aload_n 0), (528, .iload 4), (530, .iconst 1), (531, .iadd), (532, .iaload), (533, .aload_n 0), (534, .iload 4), (536, .iconst 2), (537, .iadd), (538, .iaload), (539, .invokevirtual 176), (542, .istore 6)], [(544, .goto 1421), (547, .aload_n 1), (548, .aload_n 0), (549, .iload 4), (551, .iconst 1), (552, .iadd), (553, .iaload), (554, .aload_n 0), (555, .iload 4), (557, .iconst 2), (558, .iadd), (559, .iaload), (560, .aload_n 3), (561, .invokestatic 177), (564, .istore 5), (566, .aload_n 2), (567, .aload_n 0), (568, .iload 4), (570, .iconst 1), (571, .iadd), (572, .iaload), (573, .aload_n 0), (574, .iload 4)]]
def gm_m9 : List (List (Nat × Instr)) := [[(576, .iconst 2), (577, .iadd), (578, .iaload), (579, .invokevirtual 179), (582, .istore 6), (584, .goto 1381), (587, .aload_n 1), (588, .aload_n 0), (589, .iload 4), (591, .iconst 1), (592, .iadd), (593, .iaload), (594, .aload_n 0), (595, .iload 4), (597, .iconst 2), (598, .iadd), (599, .iaload), (600, .aload_n 3), (601, .invokestatic 180), (604, .istore 5), (606, .aload_n 2), (607, .aload_n 0)], [(608, .iload 4), (610, .iconst 1), (611, .iadd), (612, .iaload), (613, .aload_n 0), (614, .iload 4), (616, .iconst 2), (617, .iadd), (618, .iaload), (619, .invokevirtual 182), (622, .istore 6), (624, .goto 1341), (627, .aload_n 1), (628, .aload_n 0), (629, .iload 4), (631, .iconst 1), (632, .iadd), (633, .iaload), (634, .aload_n 0), (635, .iload 4), (637, .iconst 2), (638, .iadd), (639, .iaload)]]
def gm_m10 : List (List (Nat × Instr)) := [[(640, .aload_n 3), (641, .invokestatic 183), (644, .istore 5), (646, .aload_n 2), (647, .aload_n 0), (648, .iload 4), (650, .iconst 1), (651, .iadd), (652, .iaload), (653, .aload_n 0), (654, .iload 4), (656, .iconst 2), (657, .iadd), (658, .iaload), (659, .invokevirtual 185), (662, .istore 6), (664, .goto 1301), (667, .aload_n 1), (668, .aload_n 0), (669, .iload 4), (671, .iconst 1)], [(672, .iadd), (673, .iaload), (674, .aload_n 0), (675, .iload 4), (677, .iconst 2), (678, .iadd), (679, .iaload), (680, .aload_n 3), (681, .invokestatic 186), (684, .istore 5), (686, .aload_n 2), (687, .aload_n 0), (688, .iload 4), (690, .iconst 1), (691, .iadd), (692, .iaload), (693, .aload_n 0), (694, .iload 4), (696, .iconst 2), (697, .iadd), (698, .iaload), (699, .invokevirtual 188), (702, .istore 6)]]
def gm_m11 : List (List (Nat × Instr)) := [[(704, .goto 1261), (707, .aload_n 1), (708, .aload_n 0), (709, .iload 4), (711, .iconst 1), (712, .iadd), (713, .iaload), (714, .aload_n 0), (715, .iload 4), (717, .iconst 2), (718, .iadd), (719, .iaload), (720, .aload_n 3), (721, .invokestatic 189), (724, .istore 5), (726, .aload_n 2), (727, .aload_n 0), (728, .iload 4), (730, .iconst 1), (731, .iadd), (732, .iaload), (733, .aload_n 0), (734, .iload 4)], [(736, .iconst 2), (737, .iadd), (738, .iaload), (739, .invokevirtual 191), (742, .istore 6), (744, .goto 1221), (747, .aload_n 1), (748, .aload_n 0), (749, .iload 4), (751, .iconst 1), (752, .iadd), (753, .iaload), (754, .aload_n 3), (755, .invokestatic 192), (758, .istore 5), (760, .aload_n 2), (761, .aload_n 0), (762, .iload 4), (764, .iconst 1), (765, .iadd), (766, .iaload), (767, .invokevirtual 194)]]
def gm_m12 : List (List (Nat × Instr)) := [[(770, .istore 6), (772, .goto 1193), (775, .aload_n 1), (776, .aload_n 0), (777, .iload 4), (779, .iconst 1), (780, .iadd), (781, .iaload), (782, .aload_n 3), (783, .invokestatic 195), (786, .istore 5), (788, .aload_n 2), (789, .aload_n 0), (790, .iload 4), (792, .iconst 1), (793, .iadd), (794, .iaload), (795, .invokevirtual 197), (798, .istore 6)], [(800, .goto 1165), (803, .aload_n 1), (804, .aload_n 0), (805, .iload 4), (807, .iconst 1), (808, .iadd), (809, .iaload), (810, .aload_n 0), (811, .iload 4), (813, .iconst 2), (814, .iadd), (815, .iaload), (816, .aload_n 0), (817, .iload 4), (819, .iconst 3), (820, .iadd), (821, .iaload), (822, .aload_n 0), (823, .iload 4), (825, .iconst 4), (826, .iadd), (827, .iaload), (828, .aload_n 3), (829, .invokestatic 198)]]
def gm_m13 : List (List (Nat × Instr)) := [[(832, .istore 5), (834, .aload_n 2), (835, .aload_n 0), (836, .iload 4), (838, .iconst 1), (839, .iadd), (840, .iaload), (841, .aload_n 0), (842, .iload 4), (844, .iconst 2), (845, .iadd), (846, .iaload), (847, .aload_n 0), (848, .iload 4), (850, .iconst 3), (851, .iadd), (852, .iaload), (853, .aload_n 0), (854, .iload 4), (856, .iconst 4), (857, .iadd), (858, .iaload), (859, .invokevirtual 201), (862, .istore 6)], [(864, .goto 1101), (867, .aload_n 1), (868, .aload_n 0), (869, .iload 4), (871, .iconst 1), (872, .iadd), (873, .iaload), (874, .aload_n 0), (875, .iload 4), (877, .iconst 2), (878, .iadd), (879, .iaload), (880, .aload_n 3), (881, .invokestatic 202), (884, .istore 5), (886, .aload_n 2), (887, .aload_n 0), (888, .iload 4), (890, .iconst 1), (891, .iadd), (892, .iaload), (893, .aload_n 0), (894, .iload 4)]]
def gm_m14 : List (List (Nat × Instr)) := [[(896, .iconst 2), (897, .iadd), (898, .iaload), (899, .invokevirtual 204), (902, .istore 6), (904, .goto 1061), (907, .aload_n 1), (908, .aload_n 0), (909, .iload 4), (911, .iconst 1), (912, .iadd), (913, .iaload), (914, .aload_n 0), (915, .iload 4), (917, .iconst 2), (918, .iadd), (919, .iaload), (920, .aload_n 3), (921, .invokestatic 205), (924, .istore 5), (926, .aload_n 2), (927, .aload_n 0)], [(928, .iload 4), (930, .iconst 1), (931, .iadd), (932, .iaload), (933, .aload_n 0), (934, .iload 4), (936, .iconst 2), (937, .iadd), (938, .iaload), (939, .invokevirtual 207), (942, .istore 6), (944, .goto 1021), (947, .aload_n 1), (948, .aload_n 0), (949, .iload 4), (951, .iconst 1), (952, .iadd), (953, .iaload), (954, .aload_n 0), (955, .iload 4), (957, .iconst 2), (958, .iadd), (959, .iaload)]]
end
/-! 01a2.mn -/
section
/-! The law's own code, decoded (laid by wip/am/gen_tables.py). -/
def gm_m15 : List (List (Nat × Instr)) := [[(960, .aload_n 3), (961, .invokestatic 208), (964, .istore 5), (966, .aload_n 2), (967, .aload_n 0), (968, .iload 4), (970, .iconst 1), (971, .iadd), (972, .iaload), (973, .aload_n 0), (974, .iload 4), (976, .iconst 2), (977, .iadd), (978, .iaload), (979, .invokevirtual 210), (982, .istore 6), (984, .goto 981), (987, .aload_n 1), (988, .aload_n 0), (989, .iload 4), (991, .iconst 1)], [(992, .iadd), (993, .iaload), (994, .aload_n 3), (995, .invokestatic 211), (998, .istore 5), (1000, .aload_n 2), (1001, .aload_n 0), (1002, .iload 4), (1004, .iconst 1), (1005, .iadd), (1006, .iaload), (1007, .invokevirtual 213), (1010, .istore 6), (1012, .goto 953), (1015, .aload_n 1), (1016, .invokevirtual 214), (1019, .pop), (1020, .aload_n 2), (1021, .invokevirtual 217)]]
def gm_m16 : List (List (Nat × Instr)) := [[(1024, .pop), (1025, .goto 940), (1028, .aload_n 1), (1029, .aload_n 0), (1030, .iload 4), (1032, .iconst 1), (1033, .iadd), (1034, .iaload), (1035, .ifCond .eq 7), (1038, .iconst 1), (1039, .goto 4), (1042, .iconst 0), (1043, .invokevirtual 218), (1046, .pop), (1047, .aload_n 2), (1048, .aload_n 0), (1049, .iload 4), (1051, .iconst 1), (1052, .iadd), (1053, .iaload), (1054, .ifCond .eq 7)], [(1057, .iconst 1), (1058, .goto 4), (1061, .iconst 0), (1062, .invokevirtual 222), (1065, .pop), (1066, .goto 899), (1069, .aload_n 1), (1070, .aload_n 0), (1071, .iload 4), (1073, .iconst 1), (1074, .iadd), (1075, .iaload), (1076, .aload_n 3), (1077, .invokestatic 223), (1080, .istore 5), (1082, .aload_n 2), (1083, .aload_n 0), (1084, .iload 4), (1086, .iconst 1), (1087, .iadd)]]
def gm_m17 : List (List (Nat × Instr)) := [[(1088, .iaload), (1089, .invokevirtual 225), (1092, .istore 6), (1094, .goto 871), (1097, .aload_n 1), (1098, .aload_n 0), (1099, .iload 4), (1101, .iconst 1), (1102, .iadd), (1103, .iaload), (1104, .aload_n 0), (1105, .iload 4), (1107, .iconst 2), (1108, .iadd), (1109, .iaload), (1110, .aload_n 0), (1111, .iload 4), (1113, .iconst 3), (1114, .iadd), (1115, .iaload), (1116, .aload_n 3), (1117, .invokestatic 226)], [(1120, .istore 5), (1122, .aload_n 2), (1123, .aload_n 0), (1124, .iload 4), (1126, .iconst 1), (1127, .iadd), (1128, .iaload), (1129, .aload_n 0), (1130, .iload 4), (1132, .iconst 2), (1133, .iadd), (1134, .iaload), (1135, .aload_n 0), (1136, .iload 4), (1138, .iconst 3), (1139, .iadd), (1140, .iaload), (1141, .invokevirtual 228), (1144, .istore 6), (1146, .goto 819), (1149, .aload_n 1), (1150, .aload_n 0), (1151, .iload 4)]]
def gm_m18 : List (List (Nat × Instr)) := [[(1153, .iconst 1), (1154, .iadd), (1155, .iaload), (1156, .aload_n 0), (1157, .iload 4), (1159, .iconst 2), (1160, .iadd), (1161, .iaload), (1162, .aload_n 0), (1163, .iload 4), (1165, .iconst 3), (1166, .iadd), (1167, .iaload), (1168, .aload_n 0), (1169, .iload 4), (1171, .iconst 4), (1172, .iadd), (1173, .iaload), (1174, .aload_n 3), (1175, .invokestatic 229), (1178, .istore 5), (1180, .aload_n 2), (1181, .aload_n 0), (1182, .iload 4)], [(1184, .iconst 1), (1185, .iadd), (1186, .iaload), (1187, .aload_n 0), (1188, .iload 4), (1190, .iconst 2), (1191, .iadd), (1192, .iaload), (1193, .aload_n 0), (1194, .iload 4), (1196, .iconst 3), (1197, .iadd), (1198, .iaload), (1199, .aload_n 0), (1200, .iload 4), (1202, .iconst 4), (1203, .iadd), (1204, .iaload), (1205, .invokevirtual 231), (1208, .istore 6), (1210, .goto 755), (1213, .aload_n 1), (1214, .aload_n 0), (1215, .iload 4)]]
def gm_m19 : List (List (Nat × Instr)) := [[(1217, .iconst 1), (1218, .iadd), (1219, .iaload), (1220, .aload_n 0), (1221, .iload 4), (1223, .iconst 2), (1224, .iadd), (1225, .iaload), (1226, .aload_n 3), (1227, .invokestatic 232), (1230, .istore 5), (1232, .aload_n 2), (1233, .aload_n 0), (1234, .iload 4), (1236, .iconst 1), (1237, .iadd), (1238, .iaload), (1239, .aload_n 0), (1240, .iload 4), (1242, .iconst 2), (1243, .iadd), (1244, .iaload), (1245, .invokevirtual 234)], [(1248, .istore 6), (1250, .goto 715), (1253, .aload_n 1), (1254, .aload_n 0), (1255, .iload 4), (1257, .iconst 1), (1258, .iadd), (1259, .iaload), (1260, .aload_n 0), (1261, .iload 4), (1263, .iconst 2), (1264, .iadd), (1265, .iaload), (1266, .aload_n 0), (1267, .iload 4), (1269, .iconst 3), (1270, .iadd), (1271, .iaload), (1272, .aload_n 3), (1273, .invokestatic 235), (1276, .istore 5), (1278, .aload_n 2), (1279, .aload_n 0)]]
def gm_m20 : List (List (Nat × Instr)) := [[(1280, .iload 4), (1282, .iconst 1), (1283, .iadd), (1284, .iaload), (1285, .aload_n 0), (1286, .iload 4), (1288, .iconst 2), (1289, .iadd), (1290, .iaload), (1291, .aload_n 0), (1292, .iload 4), (1294, .iconst 3), (1295, .iadd), (1296, .iaload), (1297, .invokevirtual 237), (1300, .istore 6), (1302, .goto 663), (1305, .aload_n 1), (1306, .invokevirtual 238), (1309, .pop), (1310, .aload_n 2), (1311, .invokevirtual 241)], [(1314, .pop), (1315, .goto 650), (1318, .aload_n 1), (1319, .aload_n 3), (1320, .invokestatic 242), (1323, .istore 5), (1325, .aload_n 2), (1326, .invokevirtual 244), (1329, .istore 6), (1331, .goto 634), (1334, .aload_n 1), (1335, .aload_n 0), (1336, .iload 4), (1338, .iconst 1), (1339, .iadd), (1340, .iaload), (1341, .aload_n 0), (1342, .iload 4)]]
def gm_m21 : List (List (Nat × Instr)) := [[(1344, .iconst 2), (1345, .iadd), (1346, .iaload), (1347, .aload_n 0), (1348, .iload 4), (1350, .iconst 3), (1351, .iadd), (1352, .iaload), (1353, .ifCond .eq 7), (1356, .iconst 1), (1357, .goto 4), (1360, .iconst 0), (1361, .aload_n 3), (1362, .invokestatic 245), (1365, .istore 5), (1367, .aload_n 2), (1368, .aload_n 0), (1369, .iload 4), (1371, .iconst 1), (1372, .iadd), (1373, .iaload), (1374, .aload_n 0), (1375, .iload 4)], [(1377, .iconst 2), (1378, .iadd), (1379, .iaload), (1380, .aload_n 0), (1381, .iload 4), (1383, .iconst 3), (1384, .iadd), (1385, .iaload), (1386, .ifCond .eq 7), (1389, .iconst 1), (1390, .goto 4), (1393, .iconst 0), (1394, .invokevirtual 248), (1397, .istore 6), (1399, .goto 566), (1402, .aload_n 1), (1403, .aload_n 0), (1404, .iload 4), (1406, .iconst 1), (1407, .iadd)]]
end
/-! 01a3.mn -/
section
/-! The law's own code, decoded (laid by wip/am/gen_tables.py). -/
def gm_m22 : List (List (Nat × Instr)) := [[(1408, .iaload), (1409, .aload_n 0), (1410, .iload 4), (1412, .iconst 2), (1413, .iadd), (1414, .iaload), (1415, .aload_n 0), (1416, .iload 4), (1418, .iconst 3), (1419, .iadd), (1420, .iaload), (1421, .aload_n 3), (1422, .invokestatic 249), (1425, .istore 5), (1427, .aload_n 2), (1428, .aload_n 0), (1429, .iload 4), (1431, .iconst 1), (1432, .iadd), (1433, .iaload), (1434, .aload_n 0), (1435, .iload 4), (1437, .iconst 2), (1438, .iadd), (1439, .iaload)], [(1440, .aload_n 0), (1441, .iload 4), (1443, .iconst 3), (1444, .iadd), (1445, .iaload), (1446, .invokevirtual 251), (1449, .istore 6), (1451, .goto 514), (1454, .aload_n 1), (1455, .aload_n 0), (1456, .iload 4), (1458, .iconst 1), (1459, .iadd), (1460, .iaload), (1461, .aload_n 0), (1462, .iload 4), (1464, .iconst 2), (1465, .iadd), (1466, .iaload), (1467, .aload_n 3), (1468, .invokestatic 252), (1471, .istore 5)]]
def gm_m23 : List (List (Nat × Instr)) := [[(1473, .aload_n 2), (1474, .aload_n 0), (1475, .iload 4), (1477, .iconst 1), (1478, .iadd), (1479, .iaload), (1480, .aload_n 0), (1481, .iload 4), (1483, .iconst 2), (1484, .iadd), (1485, .iaload), (1486, .invokevirtual 254), (1489, .istore 6), (1491, .goto 474), (1494, .aload_n 1), (1495, .aload_n 0), (1496, .iload 4), (1498, .iconst 1), (1499, .iadd), (1500, .iaload), (1501, .aload_n 0), (1502, .iload 4)], [(1504, .iconst 2), (1505, .iadd), (1506, .iaload), (1507, .ifCond .eq 7), (1510, .iconst 1), (1511, .goto 4), (1514, .iconst 0), (1515, .aload_n 3), (1516, .invokestatic 255), (1519, .istore 5), (1521, .aload_n 2), (1522, .aload_n 0), (1523, .iload 4), (1525, .iconst 1), (1526, .iadd), (1527, .iaload), (1528, .aload_n 0), (1529, .iload 4), (1531, .iconst 2), (1532, .iadd), (1533, .iaload), (1534, .ifCond .eq 7)]]
def gm_m24 : List (List (Nat × Instr)) := [[(1537, .iconst 1), (1538, .goto 4), (1541, .iconst 0), (1542, .invokevirtual 258), (1545, .istore 6), (1547, .goto 418), (1550, .aload_n 1), (1551, .aload_n 0), (1552, .iload 4), (1554, .iconst 1), (1555, .iadd), (1556, .iaload), (1557, .aload_n 0), (1558, .iload 4), (1560, .iconst 2), (1561, .iadd), (1562, .iaload), (1563, .ifCond .eq 7), (1566, .iconst 1), (1567, .goto 4)], [(1570, .iconst 0), (1571, .aload_n 3), (1572, .invokestatic 259), (1575, .istore 5), (1577, .aload_n 2), (1578, .aload_n 0), (1579, .iload 4), (1581, .iconst 1), (1582, .iadd), (1583, .iaload), (1584, .aload_n 0), (1585, .iload 4), (1587, .iconst 2), (1588, .iadd), (1589, .iaload), (1590, .ifCond .eq 7), (1593, .iconst 1), (1594, .goto 4), (1597, .iconst 0), (1598, .invokevirtual 261)]]
def gm_m25 : List (List (Nat × Instr)) := [[(1601, .istore 6), (1603, .goto 362), (1606, .aload_n 1), (1607, .aload_n 0), (1608, .iload 4), (1610, .iconst 1), (1611, .iadd), (1612, .iaload), (1613, .aload_n 0), (1614, .iload 4), (1616, .iconst 2), (1617, .iadd), (1618, .iaload), (1619, .aload_n 3), (1620, .invokestatic 262), (1623, .istore 5), (1625, .aload_n 2), (1626, .aload_n 0), (1627, .iload 4), (1629, .iconst 1), (1630, .iadd), (1631, .iaload)], [(1632, .aload_n 0), (1633, .iload 4), (1635, .iconst 2), (1636, .iadd), (1637, .iaload), (1638, .invokevirtual 264), (1641, .istore 6), (1643, .goto 322), (1646, .aload_n 1), (1647, .aload_n 0), (1648, .iload 4), (1650, .iconst 1), (1651, .iadd), (1652, .iaload), (1653, .aload_n 3), (1654, .invokestatic 265), (1657, .istore 5), (1659, .aload_n 2), (1660, .aload_n 0), (1661, .iload 4), (1663, .iconst 1)]]
end
/-! 01a4.mn -/
section
/-! The law's own code, decoded (laid by wip/am/gen_tables.py). -/
def gm_m26 : List (List (Nat × Instr)) := [[(1664, .iadd), (1665, .iaload), (1666, .invokevirtual 267), (1669, .istore 6), (1671, .goto 294), (1674, .aload_n 1), (1675, .aload_n 0), (1676, .iload 4), (1678, .iconst 1), (1679, .iadd), (1680, .iaload), (1681, .invokevirtual 268), (1684, .pop), (1685, .aload_n 2), (1686, .aload_n 0), (1687, .iload 4), (1689, .iconst 1), (1690, .iadd), (1691, .iaload), (1692, .invokevirtual 271), (1695, .pop)], [(1696, .goto 269), (1699, .aload_n 1), (1700, .aload_n 0), (1701, .iload 4), (1703, .iconst 1), (1704, .iadd), (1705, .iaload), (1706, .aload_n 0), (1707, .iload 4), (1709, .iconst 2), (1710, .iadd), (1711, .iaload), (1712, .ifCond .eq 7), (1715, .iconst 1), (1716, .goto 4), (1719, .iconst 0), (1720, .aload_n 3), (1721, .invokestatic 272), (1724, .istore 5), (1726, .aload_n 2), (1727, .aload_n 0)]]
def gm_m27 : List (List (Nat × Instr)) := [[(1728, .iload 4), (1730, .iconst 1), (1731, .iadd), (1732, .iaload), (1733, .aload_n 0), (1734, .iload 4), (1736, .iconst 2), (1737, .iadd), (1738, .iaload), (1739, .ifCond .eq 7), (1742, .iconst 1), (1743, .goto 4), (1746, .iconst 0), (1747, .invokevirtual 274), (1750, .istore 6), (1752, .goto 213), (1755, .aload_n 1), (1756, .aload_n 0), (1757, .iload 4), (1759, .iconst 1)], [(1760, .iadd), (1761, .iaload), (1762, .aload_n 0), (1763, .iload 4), (1765, .iconst 2), (1766, .iadd), (1767, .iaload), (1768, .aload_n 3), (1769, .invokestatic 275), (1772, .istore 5), (1774, .aload_n 2), (1775, .aload_n 0), (1776, .iload 4), (1778, .iconst 1), (1779, .iadd), (1780, .iaload), (1781, .aload_n 0), (1782, .iload 4), (1784, .iconst 2), (1785, .iadd), (1786, .iaload), (1787, .invokevirtual 277), (1790, .istore 6)]]
def gm_m28 : List (List (Nat × Instr)) := [[(1792, .goto 173), (1795, .aload_n 1), (1796, .aload_n 0), (1797, .iload 4), (1799, .iconst 1), (1800, .iadd), (1801, .iaload), (1802, .aload_n 0), (1803, .iload 4), (1805, .iconst 2), (1806, .iadd), (1807, .iaload), (1808, .aload_n 3), (1809, .invokestatic 278), (1812, .istore 5), (1814, .aload_n 2), (1815, .aload_n 0), (1816, .iload 4), (1818, .iconst 1), (1819, .iadd), (1820, .iaload), (1821, .aload_n 0), (1822, .iload 4)], [(1824, .iconst 2), (1825, .iadd), (1826, .iaload), (1827, .invokevirtual 280), (1830, .istore 6), (1832, .goto 133), (1835, .aload_n 1), (1836, .aload_n 0), (1837, .iload 4), (1839, .iconst 1), (1840, .iadd), (1841, .iaload), (1842, .aload_n 3), (1843, .invokestatic 281), (1846, .istore 5), (1848, .aload_n 2), (1849, .aload_n 0), (1850, .iload 4), (1852, .iconst 1), (1853, .iadd), (1854, .iaload), (1855, .invokevirtual 283)]]
def gm_m29 : List (List (Nat × Instr)) := [[(1858, .istore 6), (1860, .goto 105), (1863, .aload_n 1), (1864, .aload_n 0), (1865, .iload 4), (1867, .iconst 1), (1868, .iadd), (1869, .iaload), (1870, .aload_n 0), (1871, .iload 4), (1873, .iconst 2), (1874, .iadd), (1875, .iaload), (1876, .aload_n 3), (1877, .invokestatic 284), (1880, .istore 5), (1882, .aload_n 2), (1883, .aload_n 0), (1884, .iload 4), (1886, .iconst 1), (1887, .iadd)], [(1888, .iaload), (1889, .aload_n 0), (1890, .iload 4), (1892, .iconst 2), (1893, .iadd), (1894, .iaload), (1895, .invokevirtual 286), (1898, .istore 6), (1900, .goto 65), (1903, .aload_n 1), (1904, .invokevirtual 287), (1907, .aload_n 2), (1908, .invokevirtual 291), (1911, .if_icmp .eq 54), (1914, .iconst 0), (1915, .ireturn), (1916, .aload_n 1), (1917, .invokevirtual 292)]]
def gm_m30 : List (List (Nat × Instr)) := [[(1920, .aload_n 2), (1921, .invokevirtual 295), (1924, .goto 41), (1927, .aload_n 1), (1928, .invokevirtual 296), (1931, .pop), (1932, .aload_n 2), (1933, .invokevirtual 299), (1936, .pop), (1937, .goto 28), (1940, .aload_n 1), (1941, .aload_n 0), (1942, .iload 4), (1944, .iconst 1), (1945, .iadd), (1946, .iaload), (1947, .invokevirtual 300), (1950, .pop), (1951, .aload_n 2)], [(1952, .aload_n 0), (1953, .iload 4), (1955, .iconst 1), (1956, .iadd), (1957, .iaload), (1958, .invokevirtual 303), (1961, .pop), (1962, .goto 3), (1965, .iinc 4 6), (1968, .goto (-1945)), (1971, .iconst 1), (1972, .ireturn)]]
end
