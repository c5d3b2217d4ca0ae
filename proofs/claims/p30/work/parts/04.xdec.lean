def kBy (c : ByteArray) (p : Nat) : Option Nat := if h : p < c.size then some (c[p]'h).toNat else none
theorem kdU1 {c : ByteArray} {p b : Nat} (h : kBy c p = some b) : (Reader.u1 : Decoder Nat) c p = .ok (b, p + 1) := by
  unfold kBy at h
  by_cases hp : p < c.size
  · rw [dif_pos hp] at h
    rw [← Option.some.inj h]
    show (dite (p < c.size) (fun h => (bind (set (p + 1)) (fun _ => pure (c[p]'h).toNat) : Decoder Nat)) (fun _ => throw (HasTruncated.truncated p))) c p = _
    rw [dif_pos hp]
    rfl
  · rw [dif_neg hp] at h
    cases h
theorem kdIn {c : ByteArray} {p : Nat} {i : Instr} {n m : Nat} (h : (Decoder.instr p) c p = .ok (i, n)) (hm : n - p = m) : decode c p = .ok (i, m) := by
  show Except.bind ((Decoder.instr p) c p) _ = _
  rw [h, ← hm]
  rfl
theorem kdU2 {c : ByteArray} {p x y : Nat} (h0 : kBy c p = some x) (h1 : kBy c (p + 1) = some y) : (Reader.u2 : Decoder Nat) c p = .ok (x * 256 + y, p + 2) := by
  show Except.bind ((Reader.u1 : Decoder Nat) c p) _ = _
  rw [kdU1 h0]
  show Except.bind ((Reader.u1 : Decoder Nat) c (p + 1)) _ = _
  rw [kdU1 h1]
  rfl
theorem kdS2 {c : ByteArray} {p x y : Nat} (h0 : kBy c p = some x) (h1 : kBy c (p + 1) = some y) : (Reader.s2 : Decoder Int) c p = .ok (Reader.signed 16 (x * 256 + y), p + 2) := by
  show Except.bind ((Reader.u2 : Decoder Nat) c p) _ = _
  rw [kdU2 h0 h1]
  rfl
theorem kdS1 {c : ByteArray} {p x : Nat} (h0 : kBy c p = some x) : (Reader.s1 : Decoder Int) c p = .ok (Reader.signed 8 x, p + 1) := by
  show Except.bind ((Reader.u1 : Decoder Nat) c p) _ = _
  rw [kdU1 h0]
  rfl
def kEn : List UInt8 → Nat
  | [] => 0
  | b :: t => kEn t * 256 + b.toNat
def kDc (c : ByteArray) (N n : Nat) : Prop := kEn c.data.toList = N ∧ c.data.toList.length = n
theorem kEn_at : ∀ (l : List UInt8) (p : Nat) (h : p < l.length), kEn l / 256 ^ p % 256 = (l[p]'h).toNat
  | [], p, h => absurd h (Nat.not_lt_zero p)
  | b :: t, 0, _ => by
    show (kEn t * 256 + b.toNat) / 256 ^ 0 % 256 = b.toNat
    have hb := b.toNat_lt
    rw [Nat.pow_zero, Nat.div_one]
    omega
  | b :: t, p + 1, h => by
    have hb := b.toNat_lt
    show (kEn t * 256 + b.toNat) / 256 ^ (p + 1) % 256 = (t[p]'(Nat.lt_of_succ_lt_succ h)).toNat
    rw [Nat.pow_succ, Nat.mul_comm (256 ^ p), ← Nat.div_div_eq_div_mul, show (kEn t * 256 + b.toNat) / 256 = kEn t by omega]
    exact kEn_at t p (Nat.lt_of_succ_lt_succ h)
theorem kBe {c : ByteArray} {N n p b : Nat} (h : kDc c N n) (hp : Nat.blt p n = true) (hb : N >>> (8 * p) % 256 = b) : kBy c p = some b := by
  rw [Nat.shiftRight_eq_div_pow, Nat.pow_mul, show (2 : Nat) ^ 8 = 256 from rfl] at hb
  have h1 : p < c.data.toList.length := by rw [h.2]; exact Nat.le_of_ble_eq_true hp
  have h2 : p < c.size := h1
  have e := kEn_at c.data.toList p h1
  rw [h.1, hb] at e
  unfold kBy
  rw [dif_pos h2, e]
  rfl
theorem kD1 {c : ByteArray} {p : Nat} (h0 : kBy c p = some 1) : decode c p = .ok (.aconst_null, 1) := by
  refine kdIn (n := p + 1) ?_ (Nat.add_sub_cancel_left p 1)
  show Except.bind ((Reader.u1 : Decoder Nat) c p) _ = _
  rw [kdU1 h0]
  rfl
theorem kD10 {c : ByteArray} {p : Nat} (h0 : kBy c p = some 10) : decode c p = .ok (.lconst 1, 1) := by
  refine kdIn (n := p + 1) ?_ (Nat.add_sub_cancel_left p 1)
  show Except.bind ((Reader.u1 : Decoder Nat) c p) _ = _
  rw [kdU1 h0]
  rfl
theorem kD100 {c : ByteArray} {p : Nat} (h0 : kBy c p = some 100) : decode c p = .ok (.isub, 1) := by
  refine kdIn (n := p + 1) ?_ (Nat.add_sub_cancel_left p 1)
  show Except.bind ((Reader.u1 : Decoder Nat) c p) _ = _
  rw [kdU1 h0]
  rfl
theorem kD101 {c : ByteArray} {p : Nat} (h0 : kBy c p = some 101) : decode c p = .ok (.lsub, 1) := by
  refine kdIn (n := p + 1) ?_ (Nat.add_sub_cancel_left p 1)
  show Except.bind ((Reader.u1 : Decoder Nat) c p) _ = _
  rw [kdU1 h0]
  rfl
theorem kD104 {c : ByteArray} {p : Nat} (h0 : kBy c p = some 104) : decode c p = .ok (.imul, 1) := by
  refine kdIn (n := p + 1) ?_ (Nat.add_sub_cancel_left p 1)
  show Except.bind ((Reader.u1 : Decoder Nat) c p) _ = _
  rw [kdU1 h0]
  rfl
theorem kD105 {c : ByteArray} {p : Nat} (h0 : kBy c p = some 105) : decode c p = .ok (.lmul, 1) := by
  refine kdIn (n := p + 1) ?_ (Nat.add_sub_cancel_left p 1)
  show Except.bind ((Reader.u1 : Decoder Nat) c p) _ = _
  rw [kdU1 h0]
  rfl
theorem kD108 {c : ByteArray} {p : Nat} (h0 : kBy c p = some 108) : decode c p = .ok (.idiv, 1) := by
  refine kdIn (n := p + 1) ?_ (Nat.add_sub_cancel_left p 1)
  show Except.bind ((Reader.u1 : Decoder Nat) c p) _ = _
  rw [kdU1 h0]
  rfl
theorem kD109 {c : ByteArray} {p : Nat} (h0 : kBy c p = some 109) : decode c p = .ok (.ldiv, 1) := by
  refine kdIn (n := p + 1) ?_ (Nat.add_sub_cancel_left p 1)
  show Except.bind ((Reader.u1 : Decoder Nat) c p) _ = _
  rw [kdU1 h0]
  rfl
theorem kD112 {c : ByteArray} {p : Nat} (h0 : kBy c p = some 112) : decode c p = .ok (.irem, 1) := by
  refine kdIn (n := p + 1) ?_ (Nat.add_sub_cancel_left p 1)
  show Except.bind ((Reader.u1 : Decoder Nat) c p) _ = _
  rw [kdU1 h0]
  rfl
theorem kD113 {c : ByteArray} {p : Nat} (h0 : kBy c p = some 113) : decode c p = .ok (.lrem, 1) := by
  refine kdIn (n := p + 1) ?_ (Nat.add_sub_cancel_left p 1)
  show Except.bind ((Reader.u1 : Decoder Nat) c p) _ = _
  rw [kdU1 h0]
  rfl
theorem kD120 {c : ByteArray} {p : Nat} (h0 : kBy c p = some 120) : decode c p = .ok (.ishl, 1) := by
  refine kdIn (n := p + 1) ?_ (Nat.add_sub_cancel_left p 1)
  show Except.bind ((Reader.u1 : Decoder Nat) c p) _ = _
  rw [kdU1 h0]
  rfl
theorem kD121 {c : ByteArray} {p : Nat} (h0 : kBy c p = some 121) : decode c p = .ok (.lshl, 1) := by
  refine kdIn (n := p + 1) ?_ (Nat.add_sub_cancel_left p 1)
  show Except.bind ((Reader.u1 : Decoder Nat) c p) _ = _
  rw [kdU1 h0]
  rfl
theorem kD122 {c : ByteArray} {p : Nat} (h0 : kBy c p = some 122) : decode c p = .ok (.ishr, 1) := by
  refine kdIn (n := p + 1) ?_ (Nat.add_sub_cancel_left p 1)
  show Except.bind ((Reader.u1 : Decoder Nat) c p) _ = _
  rw [kdU1 h0]
  rfl
theorem kD124 {c : ByteArray} {p : Nat} (h0 : kBy c p = some 124) : decode c p = .ok (.iushr, 1) := by
  refine kdIn (n := p + 1) ?_ (Nat.add_sub_cancel_left p 1)
  show Except.bind ((Reader.u1 : Decoder Nat) c p) _ = _
  rw [kdU1 h0]
  rfl
theorem kD126 {c : ByteArray} {p : Nat} (h0 : kBy c p = some 126) : decode c p = .ok (.iand, 1) := by
  refine kdIn (n := p + 1) ?_ (Nat.add_sub_cancel_left p 1)
  show Except.bind ((Reader.u1 : Decoder Nat) c p) _ = _
  rw [kdU1 h0]
  rfl
theorem kD128 {c : ByteArray} {p : Nat} (h0 : kBy c p = some 128) : decode c p = .ok (.ior, 1) := by
  refine kdIn (n := p + 1) ?_ (Nat.add_sub_cancel_left p 1)
  show Except.bind ((Reader.u1 : Decoder Nat) c p) _ = _
  rw [kdU1 h0]
  rfl
theorem kD132 {c : ByteArray} {p x y : Nat} {v : Int} (h0 : kBy c p = some 132) (h1 : kBy c (p + 1) = some x) (h2 : kBy c (p + 2) = some y) (hv : Reader.signed 8 y = v) : decode c p = .ok (.iinc x v, 3) := by
  rw [← hv]
  refine kdIn (n := p + 3) ?_ (Nat.add_sub_cancel_left p 3)
  show Except.bind ((Reader.u1 : Decoder Nat) c p) _ = _
  rw [kdU1 h0]
  show Except.bind ((Reader.u1 : Decoder Nat) c (p + 1)) _ = _
  rw [kdU1 h1]
  show Except.bind ((Reader.s1 : Decoder Int) c (p + 2)) _ = _
  rw [kdS1 h2]
  rfl
theorem kD133 {c : ByteArray} {p : Nat} (h0 : kBy c p = some 133) : decode c p = .ok (.i2l, 1) := by
  refine kdIn (n := p + 1) ?_ (Nat.add_sub_cancel_left p 1)
  show Except.bind ((Reader.u1 : Decoder Nat) c p) _ = _
  rw [kdU1 h0]
  rfl
theorem kD145 {c : ByteArray} {p : Nat} (h0 : kBy c p = some 145) : decode c p = .ok (.i2b, 1) := by
  refine kdIn (n := p + 1) ?_ (Nat.add_sub_cancel_left p 1)
  show Except.bind ((Reader.u1 : Decoder Nat) c p) _ = _
  rw [kdU1 h0]
  rfl
theorem kD147 {c : ByteArray} {p : Nat} (h0 : kBy c p = some 147) : decode c p = .ok (.i2s, 1) := by
  refine kdIn (n := p + 1) ?_ (Nat.add_sub_cancel_left p 1)
  show Except.bind ((Reader.u1 : Decoder Nat) c p) _ = _
  rw [kdU1 h0]
  rfl
theorem kD148 {c : ByteArray} {p : Nat} (h0 : kBy c p = some 148) : decode c p = .ok (.lcmp, 1) := by
  refine kdIn (n := p + 1) ?_ (Nat.add_sub_cancel_left p 1)
  show Except.bind ((Reader.u1 : Decoder Nat) c p) _ = _
  rw [kdU1 h0]
  rfl
theorem kD153 {c : ByteArray} {p x y : Nat} {v : Int} (h0 : kBy c p = some 153) (h1 : kBy c (p + 1) = some x) (h2 : kBy c (p + 2) = some y) (hv : Reader.signed 16 (x * 256 + y) = v) : decode c p = .ok (.ifCond .eq v, 3) := by
  rw [← hv]
  refine kdIn (n := p + 3) ?_ (Nat.add_sub_cancel_left p 3)
  show Except.bind ((Reader.u1 : Decoder Nat) c p) _ = _
  rw [kdU1 h0]
  show Except.bind ((Reader.s2 : Decoder Int) c (p + 1)) _ = _
  rw [kdS2 h1 h2]
  rfl
theorem kD154 {c : ByteArray} {p x y : Nat} {v : Int} (h0 : kBy c p = some 154) (h1 : kBy c (p + 1) = some x) (h2 : kBy c (p + 2) = some y) (hv : Reader.signed 16 (x * 256 + y) = v) : decode c p = .ok (.ifCond .ne v, 3) := by
  rw [← hv]
  refine kdIn (n := p + 3) ?_ (Nat.add_sub_cancel_left p 3)
  show Except.bind ((Reader.u1 : Decoder Nat) c p) _ = _
  rw [kdU1 h0]
  show Except.bind ((Reader.s2 : Decoder Int) c (p + 1)) _ = _
  rw [kdS2 h1 h2]
  rfl
theorem kD155 {c : ByteArray} {p x y : Nat} {v : Int} (h0 : kBy c p = some 155) (h1 : kBy c (p + 1) = some x) (h2 : kBy c (p + 2) = some y) (hv : Reader.signed 16 (x * 256 + y) = v) : decode c p = .ok (.ifCond .lt v, 3) := by
  rw [← hv]
  refine kdIn (n := p + 3) ?_ (Nat.add_sub_cancel_left p 3)
  show Except.bind ((Reader.u1 : Decoder Nat) c p) _ = _
  rw [kdU1 h0]
  show Except.bind ((Reader.s2 : Decoder Int) c (p + 1)) _ = _
  rw [kdS2 h1 h2]
  rfl
theorem kD156 {c : ByteArray} {p x y : Nat} {v : Int} (h0 : kBy c p = some 156) (h1 : kBy c (p + 1) = some x) (h2 : kBy c (p + 2) = some y) (hv : Reader.signed 16 (x * 256 + y) = v) : decode c p = .ok (.ifCond .ge v, 3) := by
  rw [← hv]
  refine kdIn (n := p + 3) ?_ (Nat.add_sub_cancel_left p 3)
  show Except.bind ((Reader.u1 : Decoder Nat) c p) _ = _
  rw [kdU1 h0]
  show Except.bind ((Reader.s2 : Decoder Int) c (p + 1)) _ = _
  rw [kdS2 h1 h2]
  rfl
theorem kD157 {c : ByteArray} {p x y : Nat} {v : Int} (h0 : kBy c p = some 157) (h1 : kBy c (p + 1) = some x) (h2 : kBy c (p + 2) = some y) (hv : Reader.signed 16 (x * 256 + y) = v) : decode c p = .ok (.ifCond .gt v, 3) := by
  rw [← hv]
  refine kdIn (n := p + 3) ?_ (Nat.add_sub_cancel_left p 3)
  show Except.bind ((Reader.u1 : Decoder Nat) c p) _ = _
  rw [kdU1 h0]
  show Except.bind ((Reader.s2 : Decoder Int) c (p + 1)) _ = _
  rw [kdS2 h1 h2]
  rfl
theorem kD158 {c : ByteArray} {p x y : Nat} {v : Int} (h0 : kBy c p = some 158) (h1 : kBy c (p + 1) = some x) (h2 : kBy c (p + 2) = some y) (hv : Reader.signed 16 (x * 256 + y) = v) : decode c p = .ok (.ifCond .le v, 3) := by
  rw [← hv]
  refine kdIn (n := p + 3) ?_ (Nat.add_sub_cancel_left p 3)
  show Except.bind ((Reader.u1 : Decoder Nat) c p) _ = _
  rw [kdU1 h0]
  show Except.bind ((Reader.s2 : Decoder Int) c (p + 1)) _ = _
  rw [kdS2 h1 h2]
  rfl
theorem kD159 {c : ByteArray} {p x y : Nat} {v : Int} (h0 : kBy c p = some 159) (h1 : kBy c (p + 1) = some x) (h2 : kBy c (p + 2) = some y) (hv : Reader.signed 16 (x * 256 + y) = v) : decode c p = .ok (.if_icmp .eq v, 3) := by
  rw [← hv]
  refine kdIn (n := p + 3) ?_ (Nat.add_sub_cancel_left p 3)
  show Except.bind ((Reader.u1 : Decoder Nat) c p) _ = _
  rw [kdU1 h0]
  show Except.bind ((Reader.s2 : Decoder Int) c (p + 1)) _ = _
  rw [kdS2 h1 h2]
  rfl
theorem kD16 {c : ByteArray} {p x : Nat} {v : Int} (h0 : kBy c p = some 16) (h1 : kBy c (p + 1) = some x) (hv : Reader.signed 8 x = v) : decode c p = .ok (.bipush v, 2) := by
  rw [← hv]
  refine kdIn (n := p + 2) ?_ (Nat.add_sub_cancel_left p 2)
  show Except.bind ((Reader.u1 : Decoder Nat) c p) _ = _
  rw [kdU1 h0]
  show Except.bind ((Reader.s1 : Decoder Int) c (p + 1)) _ = _
  rw [kdS1 h1]
  rfl
theorem kD160 {c : ByteArray} {p x y : Nat} {v : Int} (h0 : kBy c p = some 160) (h1 : kBy c (p + 1) = some x) (h2 : kBy c (p + 2) = some y) (hv : Reader.signed 16 (x * 256 + y) = v) : decode c p = .ok (.if_icmp .ne v, 3) := by
  rw [← hv]
  refine kdIn (n := p + 3) ?_ (Nat.add_sub_cancel_left p 3)
  show Except.bind ((Reader.u1 : Decoder Nat) c p) _ = _
  rw [kdU1 h0]
  show Except.bind ((Reader.s2 : Decoder Int) c (p + 1)) _ = _
  rw [kdS2 h1 h2]
  rfl
theorem kD161 {c : ByteArray} {p x y : Nat} {v : Int} (h0 : kBy c p = some 161) (h1 : kBy c (p + 1) = some x) (h2 : kBy c (p + 2) = some y) (hv : Reader.signed 16 (x * 256 + y) = v) : decode c p = .ok (.if_icmp .lt v, 3) := by
  rw [← hv]
  refine kdIn (n := p + 3) ?_ (Nat.add_sub_cancel_left p 3)
  show Except.bind ((Reader.u1 : Decoder Nat) c p) _ = _
  rw [kdU1 h0]
  show Except.bind ((Reader.s2 : Decoder Int) c (p + 1)) _ = _
  rw [kdS2 h1 h2]
  rfl
theorem kD162 {c : ByteArray} {p x y : Nat} {v : Int} (h0 : kBy c p = some 162) (h1 : kBy c (p + 1) = some x) (h2 : kBy c (p + 2) = some y) (hv : Reader.signed 16 (x * 256 + y) = v) : decode c p = .ok (.if_icmp .ge v, 3) := by
  rw [← hv]
  refine kdIn (n := p + 3) ?_ (Nat.add_sub_cancel_left p 3)
  show Except.bind ((Reader.u1 : Decoder Nat) c p) _ = _
  rw [kdU1 h0]
  show Except.bind ((Reader.s2 : Decoder Int) c (p + 1)) _ = _
  rw [kdS2 h1 h2]
  rfl
theorem kD163 {c : ByteArray} {p x y : Nat} {v : Int} (h0 : kBy c p = some 163) (h1 : kBy c (p + 1) = some x) (h2 : kBy c (p + 2) = some y) (hv : Reader.signed 16 (x * 256 + y) = v) : decode c p = .ok (.if_icmp .gt v, 3) := by
  rw [← hv]
  refine kdIn (n := p + 3) ?_ (Nat.add_sub_cancel_left p 3)
  show Except.bind ((Reader.u1 : Decoder Nat) c p) _ = _
  rw [kdU1 h0]
  show Except.bind ((Reader.s2 : Decoder Int) c (p + 1)) _ = _
  rw [kdS2 h1 h2]
  rfl
theorem kD164 {c : ByteArray} {p x y : Nat} {v : Int} (h0 : kBy c p = some 164) (h1 : kBy c (p + 1) = some x) (h2 : kBy c (p + 2) = some y) (hv : Reader.signed 16 (x * 256 + y) = v) : decode c p = .ok (.if_icmp .le v, 3) := by
  rw [← hv]
  refine kdIn (n := p + 3) ?_ (Nat.add_sub_cancel_left p 3)
  show Except.bind ((Reader.u1 : Decoder Nat) c p) _ = _
  rw [kdU1 h0]
  show Except.bind ((Reader.s2 : Decoder Int) c (p + 1)) _ = _
  rw [kdS2 h1 h2]
  rfl
theorem kD167 {c : ByteArray} {p x y : Nat} {v : Int} (h0 : kBy c p = some 167) (h1 : kBy c (p + 1) = some x) (h2 : kBy c (p + 2) = some y) (hv : Reader.signed 16 (x * 256 + y) = v) : decode c p = .ok (.goto v, 3) := by
  rw [← hv]
  refine kdIn (n := p + 3) ?_ (Nat.add_sub_cancel_left p 3)
  show Except.bind ((Reader.u1 : Decoder Nat) c p) _ = _
  rw [kdU1 h0]
  show Except.bind ((Reader.s2 : Decoder Int) c (p + 1)) _ = _
  rw [kdS2 h1 h2]
  rfl
theorem kD17 {c : ByteArray} {p x y : Nat} {v : Int} (h0 : kBy c p = some 17) (h1 : kBy c (p + 1) = some x) (h2 : kBy c (p + 2) = some y) (hv : Reader.signed 16 (x * 256 + y) = v) : decode c p = .ok (.sipush v, 3) := by
  rw [← hv]
  refine kdIn (n := p + 3) ?_ (Nat.add_sub_cancel_left p 3)
  show Except.bind ((Reader.u1 : Decoder Nat) c p) _ = _
  rw [kdU1 h0]
  show Except.bind ((Reader.s2 : Decoder Int) c (p + 1)) _ = _
  rw [kdS2 h1 h2]
  rfl
theorem kD172 {c : ByteArray} {p : Nat} (h0 : kBy c p = some 172) : decode c p = .ok (.ireturn, 1) := by
  refine kdIn (n := p + 1) ?_ (Nat.add_sub_cancel_left p 1)
  show Except.bind ((Reader.u1 : Decoder Nat) c p) _ = _
  rw [kdU1 h0]
  rfl
theorem kD173 {c : ByteArray} {p : Nat} (h0 : kBy c p = some 173) : decode c p = .ok (.lreturn, 1) := by
  refine kdIn (n := p + 1) ?_ (Nat.add_sub_cancel_left p 1)
  show Except.bind ((Reader.u1 : Decoder Nat) c p) _ = _
  rw [kdU1 h0]
  rfl
theorem kD176 {c : ByteArray} {p : Nat} (h0 : kBy c p = some 176) : decode c p = .ok (.areturn, 1) := by
  refine kdIn (n := p + 1) ?_ (Nat.add_sub_cancel_left p 1)
  show Except.bind ((Reader.u1 : Decoder Nat) c p) _ = _
  rw [kdU1 h0]
  rfl
theorem kD177 {c : ByteArray} {p : Nat} (h0 : kBy c p = some 177) : decode c p = .ok (.return_, 1) := by
  refine kdIn (n := p + 1) ?_ (Nat.add_sub_cancel_left p 1)
  show Except.bind ((Reader.u1 : Decoder Nat) c p) _ = _
  rw [kdU1 h0]
  rfl
theorem kD18 {c : ByteArray} {p x : Nat} (h0 : kBy c p = some 18) (h1 : kBy c (p + 1) = some x) : decode c p = .ok (.ldc x, 2) := by
  refine kdIn (n := p + 2) ?_ (Nat.add_sub_cancel_left p 2)
  show Except.bind ((Reader.u1 : Decoder Nat) c p) _ = _
  rw [kdU1 h0]
  show Except.bind ((Reader.u1 : Decoder Nat) c (p + 1)) _ = _
  rw [kdU1 h1]
  rfl
theorem kD180 {c : ByteArray} {p x y : Nat} (h0 : kBy c p = some 180) (h1 : kBy c (p + 1) = some x) (h2 : kBy c (p + 2) = some y) : decode c p = .ok (.getfield (x * 256 + y), 3) := by
  refine kdIn (n := p + 3) ?_ (Nat.add_sub_cancel_left p 3)
  show Except.bind ((Reader.u1 : Decoder Nat) c p) _ = _
  rw [kdU1 h0]
  show Except.bind ((Reader.u2 : Decoder Nat) c (p + 1)) _ = _
  rw [kdU2 h1 h2]
  rfl
theorem kD181 {c : ByteArray} {p x y : Nat} (h0 : kBy c p = some 181) (h1 : kBy c (p + 1) = some x) (h2 : kBy c (p + 2) = some y) : decode c p = .ok (.putfield (x * 256 + y), 3) := by
  refine kdIn (n := p + 3) ?_ (Nat.add_sub_cancel_left p 3)
  show Except.bind ((Reader.u1 : Decoder Nat) c p) _ = _
  rw [kdU1 h0]
  show Except.bind ((Reader.u2 : Decoder Nat) c (p + 1)) _ = _
  rw [kdU2 h1 h2]
  rfl
theorem kD182 {c : ByteArray} {p x y : Nat} (h0 : kBy c p = some 182) (h1 : kBy c (p + 1) = some x) (h2 : kBy c (p + 2) = some y) : decode c p = .ok (.invokevirtual (x * 256 + y), 3) := by
  refine kdIn (n := p + 3) ?_ (Nat.add_sub_cancel_left p 3)
  show Except.bind ((Reader.u1 : Decoder Nat) c p) _ = _
  rw [kdU1 h0]
  show Except.bind ((Reader.u2 : Decoder Nat) c (p + 1)) _ = _
  rw [kdU2 h1 h2]
  rfl
theorem kD183 {c : ByteArray} {p x y : Nat} (h0 : kBy c p = some 183) (h1 : kBy c (p + 1) = some x) (h2 : kBy c (p + 2) = some y) : decode c p = .ok (.invokespecial (x * 256 + y), 3) := by
  refine kdIn (n := p + 3) ?_ (Nat.add_sub_cancel_left p 3)
  show Except.bind ((Reader.u1 : Decoder Nat) c p) _ = _
  rw [kdU1 h0]
  show Except.bind ((Reader.u2 : Decoder Nat) c (p + 1)) _ = _
  rw [kdU2 h1 h2]
  rfl
theorem kD184 {c : ByteArray} {p x y : Nat} (h0 : kBy c p = some 184) (h1 : kBy c (p + 1) = some x) (h2 : kBy c (p + 2) = some y) : decode c p = .ok (.invokestatic (x * 256 + y), 3) := by
  refine kdIn (n := p + 3) ?_ (Nat.add_sub_cancel_left p 3)
  show Except.bind ((Reader.u1 : Decoder Nat) c p) _ = _
  rw [kdU1 h0]
  show Except.bind ((Reader.u2 : Decoder Nat) c (p + 1)) _ = _
  rw [kdU2 h1 h2]
  rfl
theorem kD187 {c : ByteArray} {p x y : Nat} (h0 : kBy c p = some 187) (h1 : kBy c (p + 1) = some x) (h2 : kBy c (p + 2) = some y) : decode c p = .ok (.new (x * 256 + y), 3) := by
  refine kdIn (n := p + 3) ?_ (Nat.add_sub_cancel_left p 3)
  show Except.bind ((Reader.u1 : Decoder Nat) c p) _ = _
  rw [kdU1 h0]
  show Except.bind ((Reader.u2 : Decoder Nat) c (p + 1)) _ = _
  rw [kdU2 h1 h2]
  rfl
theorem kD188_10 {c : ByteArray} {p : Nat} (h0 : kBy c p = some 188) (h1 : kBy c (p + 1) = some 10) : decode c p = .ok (.newarray .int, 2) := by
  refine kdIn (n := p + 2) ?_ (Nat.add_sub_cancel_left p 2)
  show Except.bind ((Reader.u1 : Decoder Nat) c p) _ = _
  rw [kdU1 h0]
  show Except.bind ((Reader.u1 : Decoder Nat) c (p + 1)) _ = _
  rw [kdU1 h1]
  rfl
theorem kD188_11 {c : ByteArray} {p : Nat} (h0 : kBy c p = some 188) (h1 : kBy c (p + 1) = some 11) : decode c p = .ok (.newarray .long, 2) := by
  refine kdIn (n := p + 2) ?_ (Nat.add_sub_cancel_left p 2)
  show Except.bind ((Reader.u1 : Decoder Nat) c p) _ = _
  rw [kdU1 h0]
  show Except.bind ((Reader.u1 : Decoder Nat) c (p + 1)) _ = _
  rw [kdU1 h1]
  rfl
theorem kD189 {c : ByteArray} {p x y : Nat} (h0 : kBy c p = some 189) (h1 : kBy c (p + 1) = some x) (h2 : kBy c (p + 2) = some y) : decode c p = .ok (.anewarray (x * 256 + y), 3) := by
  refine kdIn (n := p + 3) ?_ (Nat.add_sub_cancel_left p 3)
  show Except.bind ((Reader.u1 : Decoder Nat) c p) _ = _
  rw [kdU1 h0]
  show Except.bind ((Reader.u2 : Decoder Nat) c (p + 1)) _ = _
  rw [kdU2 h1 h2]
  rfl
theorem kD19 {c : ByteArray} {p x y : Nat} (h0 : kBy c p = some 19) (h1 : kBy c (p + 1) = some x) (h2 : kBy c (p + 2) = some y) : decode c p = .ok (.ldc_w (x * 256 + y), 3) := by
  refine kdIn (n := p + 3) ?_ (Nat.add_sub_cancel_left p 3)
  show Except.bind ((Reader.u1 : Decoder Nat) c p) _ = _
  rw [kdU1 h0]
  show Except.bind ((Reader.u2 : Decoder Nat) c (p + 1)) _ = _
  rw [kdU2 h1 h2]
  rfl
theorem kD190 {c : ByteArray} {p : Nat} (h0 : kBy c p = some 190) : decode c p = .ok (.arraylength, 1) := by
  refine kdIn (n := p + 1) ?_ (Nat.add_sub_cancel_left p 1)
  show Except.bind ((Reader.u1 : Decoder Nat) c p) _ = _
  rw [kdU1 h0]
  rfl
theorem kD198 {c : ByteArray} {p x y : Nat} {v : Int} (h0 : kBy c p = some 198) (h1 : kBy c (p + 1) = some x) (h2 : kBy c (p + 2) = some y) (hv : Reader.signed 16 (x * 256 + y) = v) : decode c p = .ok (.ifnull v, 3) := by
  rw [← hv]
  refine kdIn (n := p + 3) ?_ (Nat.add_sub_cancel_left p 3)
  show Except.bind ((Reader.u1 : Decoder Nat) c p) _ = _
  rw [kdU1 h0]
  show Except.bind ((Reader.s2 : Decoder Int) c (p + 1)) _ = _
  rw [kdS2 h1 h2]
  rfl
theorem kD199 {c : ByteArray} {p x y : Nat} {v : Int} (h0 : kBy c p = some 199) (h1 : kBy c (p + 1) = some x) (h2 : kBy c (p + 2) = some y) (hv : Reader.signed 16 (x * 256 + y) = v) : decode c p = .ok (.ifnonnull v, 3) := by
  rw [← hv]
  refine kdIn (n := p + 3) ?_ (Nat.add_sub_cancel_left p 3)
  show Except.bind ((Reader.u1 : Decoder Nat) c p) _ = _
  rw [kdU1 h0]
  show Except.bind ((Reader.s2 : Decoder Int) c (p + 1)) _ = _
  rw [kdS2 h1 h2]
  rfl
theorem kD2 {c : ByteArray} {p : Nat} (h0 : kBy c p = some 2) : decode c p = .ok (.iconst (-1), 1) := by
  refine kdIn (n := p + 1) ?_ (Nat.add_sub_cancel_left p 1)
  show Except.bind ((Reader.u1 : Decoder Nat) c p) _ = _
  rw [kdU1 h0]
  rfl
theorem kD20 {c : ByteArray} {p x y : Nat} (h0 : kBy c p = some 20) (h1 : kBy c (p + 1) = some x) (h2 : kBy c (p + 2) = some y) : decode c p = .ok (.ldc2_w (x * 256 + y), 3) := by
  refine kdIn (n := p + 3) ?_ (Nat.add_sub_cancel_left p 3)
  show Except.bind ((Reader.u1 : Decoder Nat) c p) _ = _
  rw [kdU1 h0]
  show Except.bind ((Reader.u2 : Decoder Nat) c (p + 1)) _ = _
  rw [kdU2 h1 h2]
  rfl
theorem kD21 {c : ByteArray} {p x : Nat} (h0 : kBy c p = some 21) (h1 : kBy c (p + 1) = some x) : decode c p = .ok (.iload x, 2) := by
  refine kdIn (n := p + 2) ?_ (Nat.add_sub_cancel_left p 2)
  show Except.bind ((Reader.u1 : Decoder Nat) c p) _ = _
  rw [kdU1 h0]
  show Except.bind ((Reader.u1 : Decoder Nat) c (p + 1)) _ = _
  rw [kdU1 h1]
  rfl
theorem kD22 {c : ByteArray} {p x : Nat} (h0 : kBy c p = some 22) (h1 : kBy c (p + 1) = some x) : decode c p = .ok (.lload x, 2) := by
  refine kdIn (n := p + 2) ?_ (Nat.add_sub_cancel_left p 2)
  show Except.bind ((Reader.u1 : Decoder Nat) c p) _ = _
  rw [kdU1 h0]
  show Except.bind ((Reader.u1 : Decoder Nat) c (p + 1)) _ = _
  rw [kdU1 h1]
  rfl
theorem kD25 {c : ByteArray} {p x : Nat} (h0 : kBy c p = some 25) (h1 : kBy c (p + 1) = some x) : decode c p = .ok (.aload x, 2) := by
  refine kdIn (n := p + 2) ?_ (Nat.add_sub_cancel_left p 2)
  show Except.bind ((Reader.u1 : Decoder Nat) c p) _ = _
  rw [kdU1 h0]
  show Except.bind ((Reader.u1 : Decoder Nat) c (p + 1)) _ = _
  rw [kdU1 h1]
  rfl
theorem kD26 {c : ByteArray} {p : Nat} (h0 : kBy c p = some 26) : decode c p = .ok (.iload_n 0, 1) := by
  refine kdIn (n := p + 1) ?_ (Nat.add_sub_cancel_left p 1)
  show Except.bind ((Reader.u1 : Decoder Nat) c p) _ = _
  rw [kdU1 h0]
  rfl
theorem kD27 {c : ByteArray} {p : Nat} (h0 : kBy c p = some 27) : decode c p = .ok (.iload_n 1, 1) := by
  refine kdIn (n := p + 1) ?_ (Nat.add_sub_cancel_left p 1)
  show Except.bind ((Reader.u1 : Decoder Nat) c p) _ = _
  rw [kdU1 h0]
  rfl
theorem kD28 {c : ByteArray} {p : Nat} (h0 : kBy c p = some 28) : decode c p = .ok (.iload_n 2, 1) := by
  refine kdIn (n := p + 1) ?_ (Nat.add_sub_cancel_left p 1)
  show Except.bind ((Reader.u1 : Decoder Nat) c p) _ = _
  rw [kdU1 h0]
  rfl
theorem kD29 {c : ByteArray} {p : Nat} (h0 : kBy c p = some 29) : decode c p = .ok (.iload_n 3, 1) := by
  refine kdIn (n := p + 1) ?_ (Nat.add_sub_cancel_left p 1)
  show Except.bind ((Reader.u1 : Decoder Nat) c p) _ = _
  rw [kdU1 h0]
  rfl
theorem kD3 {c : ByteArray} {p : Nat} (h0 : kBy c p = some 3) : decode c p = .ok (.iconst 0, 1) := by
  refine kdIn (n := p + 1) ?_ (Nat.add_sub_cancel_left p 1)
  show Except.bind ((Reader.u1 : Decoder Nat) c p) _ = _
  rw [kdU1 h0]
  rfl
theorem kD30 {c : ByteArray} {p : Nat} (h0 : kBy c p = some 30) : decode c p = .ok (.lload_n 0, 1) := by
  refine kdIn (n := p + 1) ?_ (Nat.add_sub_cancel_left p 1)
  show Except.bind ((Reader.u1 : Decoder Nat) c p) _ = _
  rw [kdU1 h0]
  rfl
theorem kD31 {c : ByteArray} {p : Nat} (h0 : kBy c p = some 31) : decode c p = .ok (.lload_n 1, 1) := by
  refine kdIn (n := p + 1) ?_ (Nat.add_sub_cancel_left p 1)
  show Except.bind ((Reader.u1 : Decoder Nat) c p) _ = _
  rw [kdU1 h0]
  rfl
theorem kD32 {c : ByteArray} {p : Nat} (h0 : kBy c p = some 32) : decode c p = .ok (.lload_n 2, 1) := by
  refine kdIn (n := p + 1) ?_ (Nat.add_sub_cancel_left p 1)
  show Except.bind ((Reader.u1 : Decoder Nat) c p) _ = _
  rw [kdU1 h0]
  rfl
theorem kD4 {c : ByteArray} {p : Nat} (h0 : kBy c p = some 4) : decode c p = .ok (.iconst 1, 1) := by
  refine kdIn (n := p + 1) ?_ (Nat.add_sub_cancel_left p 1)
  show Except.bind ((Reader.u1 : Decoder Nat) c p) _ = _
  rw [kdU1 h0]
  rfl
theorem kD42 {c : ByteArray} {p : Nat} (h0 : kBy c p = some 42) : decode c p = .ok (.aload_n 0, 1) := by
  refine kdIn (n := p + 1) ?_ (Nat.add_sub_cancel_left p 1)
  show Except.bind ((Reader.u1 : Decoder Nat) c p) _ = _
  rw [kdU1 h0]
  rfl
theorem kD43 {c : ByteArray} {p : Nat} (h0 : kBy c p = some 43) : decode c p = .ok (.aload_n 1, 1) := by
  refine kdIn (n := p + 1) ?_ (Nat.add_sub_cancel_left p 1)
  show Except.bind ((Reader.u1 : Decoder Nat) c p) _ = _
  rw [kdU1 h0]
  rfl
theorem kD44 {c : ByteArray} {p : Nat} (h0 : kBy c p = some 44) : decode c p = .ok (.aload_n 2, 1) := by
  refine kdIn (n := p + 1) ?_ (Nat.add_sub_cancel_left p 1)
  show Except.bind ((Reader.u1 : Decoder Nat) c p) _ = _
  rw [kdU1 h0]
  rfl
theorem kD45 {c : ByteArray} {p : Nat} (h0 : kBy c p = some 45) : decode c p = .ok (.aload_n 3, 1) := by
  refine kdIn (n := p + 1) ?_ (Nat.add_sub_cancel_left p 1)
  show Except.bind ((Reader.u1 : Decoder Nat) c p) _ = _
  rw [kdU1 h0]
  rfl
theorem kD46 {c : ByteArray} {p : Nat} (h0 : kBy c p = some 46) : decode c p = .ok (.iaload, 1) := by
  refine kdIn (n := p + 1) ?_ (Nat.add_sub_cancel_left p 1)
  show Except.bind ((Reader.u1 : Decoder Nat) c p) _ = _
  rw [kdU1 h0]
  rfl
theorem kD47 {c : ByteArray} {p : Nat} (h0 : kBy c p = some 47) : decode c p = .ok (.laload, 1) := by
  refine kdIn (n := p + 1) ?_ (Nat.add_sub_cancel_left p 1)
  show Except.bind ((Reader.u1 : Decoder Nat) c p) _ = _
  rw [kdU1 h0]
  rfl
theorem kD5 {c : ByteArray} {p : Nat} (h0 : kBy c p = some 5) : decode c p = .ok (.iconst 2, 1) := by
  refine kdIn (n := p + 1) ?_ (Nat.add_sub_cancel_left p 1)
  show Except.bind ((Reader.u1 : Decoder Nat) c p) _ = _
  rw [kdU1 h0]
  rfl
theorem kD50 {c : ByteArray} {p : Nat} (h0 : kBy c p = some 50) : decode c p = .ok (.aaload, 1) := by
  refine kdIn (n := p + 1) ?_ (Nat.add_sub_cancel_left p 1)
  show Except.bind ((Reader.u1 : Decoder Nat) c p) _ = _
  rw [kdU1 h0]
  rfl
theorem kD54 {c : ByteArray} {p x : Nat} (h0 : kBy c p = some 54) (h1 : kBy c (p + 1) = some x) : decode c p = .ok (.istore x, 2) := by
  refine kdIn (n := p + 2) ?_ (Nat.add_sub_cancel_left p 2)
  show Except.bind ((Reader.u1 : Decoder Nat) c p) _ = _
  rw [kdU1 h0]
  show Except.bind ((Reader.u1 : Decoder Nat) c (p + 1)) _ = _
  rw [kdU1 h1]
  rfl
theorem kD55 {c : ByteArray} {p x : Nat} (h0 : kBy c p = some 55) (h1 : kBy c (p + 1) = some x) : decode c p = .ok (.lstore x, 2) := by
  refine kdIn (n := p + 2) ?_ (Nat.add_sub_cancel_left p 2)
  show Except.bind ((Reader.u1 : Decoder Nat) c p) _ = _
  rw [kdU1 h0]
  show Except.bind ((Reader.u1 : Decoder Nat) c (p + 1)) _ = _
  rw [kdU1 h1]
  rfl
theorem kD58 {c : ByteArray} {p x : Nat} (h0 : kBy c p = some 58) (h1 : kBy c (p + 1) = some x) : decode c p = .ok (.astore x, 2) := by
  refine kdIn (n := p + 2) ?_ (Nat.add_sub_cancel_left p 2)
  show Except.bind ((Reader.u1 : Decoder Nat) c p) _ = _
  rw [kdU1 h0]
  show Except.bind ((Reader.u1 : Decoder Nat) c (p + 1)) _ = _
  rw [kdU1 h1]
  rfl
theorem kD59 {c : ByteArray} {p : Nat} (h0 : kBy c p = some 59) : decode c p = .ok (.istore_n 0, 1) := by
  refine kdIn (n := p + 1) ?_ (Nat.add_sub_cancel_left p 1)
  show Except.bind ((Reader.u1 : Decoder Nat) c p) _ = _
  rw [kdU1 h0]
  rfl
theorem kD6 {c : ByteArray} {p : Nat} (h0 : kBy c p = some 6) : decode c p = .ok (.iconst 3, 1) := by
  refine kdIn (n := p + 1) ?_ (Nat.add_sub_cancel_left p 1)
  show Except.bind ((Reader.u1 : Decoder Nat) c p) _ = _
  rw [kdU1 h0]
  rfl
theorem kD60 {c : ByteArray} {p : Nat} (h0 : kBy c p = some 60) : decode c p = .ok (.istore_n 1, 1) := by
  refine kdIn (n := p + 1) ?_ (Nat.add_sub_cancel_left p 1)
  show Except.bind ((Reader.u1 : Decoder Nat) c p) _ = _
  rw [kdU1 h0]
  rfl
theorem kD61 {c : ByteArray} {p : Nat} (h0 : kBy c p = some 61) : decode c p = .ok (.istore_n 2, 1) := by
  refine kdIn (n := p + 1) ?_ (Nat.add_sub_cancel_left p 1)
  show Except.bind ((Reader.u1 : Decoder Nat) c p) _ = _
  rw [kdU1 h0]
  rfl
theorem kD62 {c : ByteArray} {p : Nat} (h0 : kBy c p = some 62) : decode c p = .ok (.istore_n 3, 1) := by
  refine kdIn (n := p + 1) ?_ (Nat.add_sub_cancel_left p 1)
  show Except.bind ((Reader.u1 : Decoder Nat) c p) _ = _
  rw [kdU1 h0]
  rfl
theorem kD64 {c : ByteArray} {p : Nat} (h0 : kBy c p = some 64) : decode c p = .ok (.lstore_n 1, 1) := by
  refine kdIn (n := p + 1) ?_ (Nat.add_sub_cancel_left p 1)
  show Except.bind ((Reader.u1 : Decoder Nat) c p) _ = _
  rw [kdU1 h0]
  rfl
theorem kD7 {c : ByteArray} {p : Nat} (h0 : kBy c p = some 7) : decode c p = .ok (.iconst 4, 1) := by
  refine kdIn (n := p + 1) ?_ (Nat.add_sub_cancel_left p 1)
  show Except.bind ((Reader.u1 : Decoder Nat) c p) _ = _
  rw [kdU1 h0]
  rfl
theorem kD76 {c : ByteArray} {p : Nat} (h0 : kBy c p = some 76) : decode c p = .ok (.astore_n 1, 1) := by
  refine kdIn (n := p + 1) ?_ (Nat.add_sub_cancel_left p 1)
  show Except.bind ((Reader.u1 : Decoder Nat) c p) _ = _
  rw [kdU1 h0]
  rfl
theorem kD77 {c : ByteArray} {p : Nat} (h0 : kBy c p = some 77) : decode c p = .ok (.astore_n 2, 1) := by
  refine kdIn (n := p + 1) ?_ (Nat.add_sub_cancel_left p 1)
  show Except.bind ((Reader.u1 : Decoder Nat) c p) _ = _
  rw [kdU1 h0]
  rfl
theorem kD78 {c : ByteArray} {p : Nat} (h0 : kBy c p = some 78) : decode c p = .ok (.astore_n 3, 1) := by
  refine kdIn (n := p + 1) ?_ (Nat.add_sub_cancel_left p 1)
  show Except.bind ((Reader.u1 : Decoder Nat) c p) _ = _
  rw [kdU1 h0]
  rfl
theorem kD79 {c : ByteArray} {p : Nat} (h0 : kBy c p = some 79) : decode c p = .ok (.iastore, 1) := by
  refine kdIn (n := p + 1) ?_ (Nat.add_sub_cancel_left p 1)
  show Except.bind ((Reader.u1 : Decoder Nat) c p) _ = _
  rw [kdU1 h0]
  rfl
theorem kD8 {c : ByteArray} {p : Nat} (h0 : kBy c p = some 8) : decode c p = .ok (.iconst 5, 1) := by
  refine kdIn (n := p + 1) ?_ (Nat.add_sub_cancel_left p 1)
  show Except.bind ((Reader.u1 : Decoder Nat) c p) _ = _
  rw [kdU1 h0]
  rfl
theorem kD80 {c : ByteArray} {p : Nat} (h0 : kBy c p = some 80) : decode c p = .ok (.lastore, 1) := by
  refine kdIn (n := p + 1) ?_ (Nat.add_sub_cancel_left p 1)
  show Except.bind ((Reader.u1 : Decoder Nat) c p) _ = _
  rw [kdU1 h0]
  rfl
theorem kD83 {c : ByteArray} {p : Nat} (h0 : kBy c p = some 83) : decode c p = .ok (.aastore, 1) := by
  refine kdIn (n := p + 1) ?_ (Nat.add_sub_cancel_left p 1)
  show Except.bind ((Reader.u1 : Decoder Nat) c p) _ = _
  rw [kdU1 h0]
  rfl
theorem kD87 {c : ByteArray} {p : Nat} (h0 : kBy c p = some 87) : decode c p = .ok (.pop, 1) := by
  refine kdIn (n := p + 1) ?_ (Nat.add_sub_cancel_left p 1)
  show Except.bind ((Reader.u1 : Decoder Nat) c p) _ = _
  rw [kdU1 h0]
  rfl
theorem kD88 {c : ByteArray} {p : Nat} (h0 : kBy c p = some 88) : decode c p = .ok (.pop2, 1) := by
  refine kdIn (n := p + 1) ?_ (Nat.add_sub_cancel_left p 1)
  show Except.bind ((Reader.u1 : Decoder Nat) c p) _ = _
  rw [kdU1 h0]
  rfl
theorem kD89 {c : ByteArray} {p : Nat} (h0 : kBy c p = some 89) : decode c p = .ok (.dup, 1) := by
  refine kdIn (n := p + 1) ?_ (Nat.add_sub_cancel_left p 1)
  show Except.bind ((Reader.u1 : Decoder Nat) c p) _ = _
  rw [kdU1 h0]
  rfl
theorem kD9 {c : ByteArray} {p : Nat} (h0 : kBy c p = some 9) : decode c p = .ok (.lconst 0, 1) := by
  refine kdIn (n := p + 1) ?_ (Nat.add_sub_cancel_left p 1)
  show Except.bind ((Reader.u1 : Decoder Nat) c p) _ = _
  rw [kdU1 h0]
  rfl
theorem kD92 {c : ByteArray} {p : Nat} (h0 : kBy c p = some 92) : decode c p = .ok (.dup2, 1) := by
  refine kdIn (n := p + 1) ?_ (Nat.add_sub_cancel_left p 1)
  show Except.bind ((Reader.u1 : Decoder Nat) c p) _ = _
  rw [kdU1 h0]
  rfl
theorem kD96 {c : ByteArray} {p : Nat} (h0 : kBy c p = some 96) : decode c p = .ok (.iadd, 1) := by
  refine kdIn (n := p + 1) ?_ (Nat.add_sub_cancel_left p 1)
  show Except.bind ((Reader.u1 : Decoder Nat) c p) _ = _
  rw [kdU1 h0]
  rfl
theorem kD97 {c : ByteArray} {p : Nat} (h0 : kBy c p = some 97) : decode c p = .ok (.ladd, 1) := by
  refine kdIn (n := p + 1) ?_ (Nat.add_sub_cancel_left p 1)
  show Except.bind ((Reader.u1 : Decoder Nat) c p) _ = _
  rw [kdU1 h0]
  rfl
theorem kS16_0_3 : Reader.signed 16 (0 * 256 + 3) = 3 := by decide +kernel
theorem kS16_0_4 : Reader.signed 16 (0 * 256 + 4) = 4 := by decide +kernel
theorem kS16_0_5 : Reader.signed 16 (0 * 256 + 5) = 5 := by decide +kernel
theorem kS16_0_6 : Reader.signed 16 (0 * 256 + 6) = 6 := by decide +kernel
theorem kS16_0_7 : Reader.signed 16 (0 * 256 + 7) = 7 := by decide +kernel
theorem kS16_0_8 : Reader.signed 16 (0 * 256 + 8) = 8 := by decide +kernel
theorem kS16_0_9 : Reader.signed 16 (0 * 256 + 9) = 9 := by decide +kernel
theorem kS16_0_10 : Reader.signed 16 (0 * 256 + 10) = 10 := by decide +kernel
theorem kS16_0_11 : Reader.signed 16 (0 * 256 + 11) = 11 := by decide +kernel
theorem kS16_0_12 : Reader.signed 16 (0 * 256 + 12) = 12 := by decide +kernel
theorem kS16_0_13 : Reader.signed 16 (0 * 256 + 13) = 13 := by decide +kernel
theorem kS16_0_14 : Reader.signed 16 (0 * 256 + 14) = 14 := by decide +kernel
theorem kS16_0_15 : Reader.signed 16 (0 * 256 + 15) = 15 := by decide +kernel
theorem kS16_0_16 : Reader.signed 16 (0 * 256 + 16) = 16 := by decide +kernel
theorem kS16_0_17 : Reader.signed 16 (0 * 256 + 17) = 17 := by decide +kernel
theorem kS16_0_18 : Reader.signed 16 (0 * 256 + 18) = 18 := by decide +kernel
theorem kS16_0_19 : Reader.signed 16 (0 * 256 + 19) = 19 := by decide +kernel
theorem kS16_0_20 : Reader.signed 16 (0 * 256 + 20) = 20 := by decide +kernel
theorem kS16_0_21 : Reader.signed 16 (0 * 256 + 21) = 21 := by decide +kernel
theorem kS16_0_22 : Reader.signed 16 (0 * 256 + 22) = 22 := by decide +kernel
theorem kS16_0_23 : Reader.signed 16 (0 * 256 + 23) = 23 := by decide +kernel
theorem kS16_0_24 : Reader.signed 16 (0 * 256 + 24) = 24 := by decide +kernel
theorem kS16_0_25 : Reader.signed 16 (0 * 256 + 25) = 25 := by decide +kernel
theorem kS16_0_26 : Reader.signed 16 (0 * 256 + 26) = 26 := by decide +kernel
theorem kS16_0_27 : Reader.signed 16 (0 * 256 + 27) = 27 := by decide +kernel
theorem kS16_0_28 : Reader.signed 16 (0 * 256 + 28) = 28 := by decide +kernel
theorem kS16_0_29 : Reader.signed 16 (0 * 256 + 29) = 29 := by decide +kernel
theorem kS16_0_30 : Reader.signed 16 (0 * 256 + 30) = 30 := by decide +kernel
theorem kS16_0_31 : Reader.signed 16 (0 * 256 + 31) = 31 := by decide +kernel
theorem kS16_0_32 : Reader.signed 16 (0 * 256 + 32) = 32 := by decide +kernel
theorem kS16_0_33 : Reader.signed 16 (0 * 256 + 33) = 33 := by decide +kernel
theorem kS16_0_34 : Reader.signed 16 (0 * 256 + 34) = 34 := by decide +kernel
theorem kS16_0_35 : Reader.signed 16 (0 * 256 + 35) = 35 := by decide +kernel
theorem kS16_0_37 : Reader.signed 16 (0 * 256 + 37) = 37 := by decide +kernel
theorem kS16_0_38 : Reader.signed 16 (0 * 256 + 38) = 38 := by decide +kernel
theorem kS16_0_39 : Reader.signed 16 (0 * 256 + 39) = 39 := by decide +kernel
theorem kS16_0_41 : Reader.signed 16 (0 * 256 + 41) = 41 := by decide +kernel
theorem kS16_0_43 : Reader.signed 16 (0 * 256 + 43) = 43 := by decide +kernel
theorem kS16_0_45 : Reader.signed 16 (0 * 256 + 45) = 45 := by decide +kernel
theorem kS16_0_46 : Reader.signed 16 (0 * 256 + 46) = 46 := by decide +kernel
theorem kS16_0_47 : Reader.signed 16 (0 * 256 + 47) = 47 := by decide +kernel
theorem kS16_0_48 : Reader.signed 16 (0 * 256 + 48) = 48 := by decide +kernel
theorem kS16_0_49 : Reader.signed 16 (0 * 256 + 49) = 49 := by decide +kernel
theorem kS16_0_53 : Reader.signed 16 (0 * 256 + 53) = 53 := by decide +kernel
theorem kS16_0_54 : Reader.signed 16 (0 * 256 + 54) = 54 := by decide +kernel
theorem kS16_0_55 : Reader.signed 16 (0 * 256 + 55) = 55 := by decide +kernel
theorem kS16_0_56 : Reader.signed 16 (0 * 256 + 56) = 56 := by decide +kernel
theorem kS16_0_58 : Reader.signed 16 (0 * 256 + 58) = 58 := by decide +kernel
theorem kS16_0_60 : Reader.signed 16 (0 * 256 + 60) = 60 := by decide +kernel
theorem kS16_0_63 : Reader.signed 16 (0 * 256 + 63) = 63 := by decide +kernel
theorem kS16_0_64 : Reader.signed 16 (0 * 256 + 64) = 64 := by decide +kernel
theorem kS16_0_65 : Reader.signed 16 (0 * 256 + 65) = 65 := by decide +kernel
theorem kS16_0_67 : Reader.signed 16 (0 * 256 + 67) = 67 := by decide +kernel
theorem kS16_0_68 : Reader.signed 16 (0 * 256 + 68) = 68 := by decide +kernel
theorem kS16_0_69 : Reader.signed 16 (0 * 256 + 69) = 69 := by decide +kernel
theorem kS16_0_71 : Reader.signed 16 (0 * 256 + 71) = 71 := by decide +kernel
theorem kS16_0_75 : Reader.signed 16 (0 * 256 + 75) = 75 := by decide +kernel
theorem kS16_0_76 : Reader.signed 16 (0 * 256 + 76) = 76 := by decide +kernel
theorem kS16_0_77 : Reader.signed 16 (0 * 256 + 77) = 77 := by decide +kernel
theorem kS16_0_78 : Reader.signed 16 (0 * 256 + 78) = 78 := by decide +kernel
theorem kS16_0_80 : Reader.signed 16 (0 * 256 + 80) = 80 := by decide +kernel
theorem kS16_0_81 : Reader.signed 16 (0 * 256 + 81) = 81 := by decide +kernel
theorem kS16_0_83 : Reader.signed 16 (0 * 256 + 83) = 83 := by decide +kernel
theorem kS16_0_84 : Reader.signed 16 (0 * 256 + 84) = 84 := by decide +kernel
theorem kS16_0_86 : Reader.signed 16 (0 * 256 + 86) = 86 := by decide +kernel
theorem kS16_0_89 : Reader.signed 16 (0 * 256 + 89) = 89 := by decide +kernel
theorem kS16_0_92 : Reader.signed 16 (0 * 256 + 92) = 92 := by decide +kernel
theorem kS16_0_97 : Reader.signed 16 (0 * 256 + 97) = 97 := by decide +kernel
theorem kS16_0_105 : Reader.signed 16 (0 * 256 + 105) = 105 := by decide +kernel
theorem kS16_0_106 : Reader.signed 16 (0 * 256 + 106) = 106 := by decide +kernel
theorem kS16_0_108 : Reader.signed 16 (0 * 256 + 108) = 108 := by decide +kernel
theorem kS16_0_113 : Reader.signed 16 (0 * 256 + 113) = 113 := by decide +kernel
theorem kS16_0_117 : Reader.signed 16 (0 * 256 + 117) = 117 := by decide +kernel
theorem kS16_0_120 : Reader.signed 16 (0 * 256 + 120) = 120 := by decide +kernel
theorem kS16_0_124 : Reader.signed 16 (0 * 256 + 124) = 124 := by decide +kernel
theorem kS16_0_126 : Reader.signed 16 (0 * 256 + 126) = 126 := by decide +kernel
theorem kS16_0_127 : Reader.signed 16 (0 * 256 + 127) = 127 := by decide +kernel
theorem kS16_0_133 : Reader.signed 16 (0 * 256 + 133) = 133 := by decide +kernel
theorem kS16_0_134 : Reader.signed 16 (0 * 256 + 134) = 134 := by decide +kernel
theorem kS16_0_139 : Reader.signed 16 (0 * 256 + 139) = 139 := by decide +kernel
theorem kS16_0_145 : Reader.signed 16 (0 * 256 + 145) = 145 := by decide +kernel
theorem kS16_0_188 : Reader.signed 16 (0 * 256 + 188) = 188 := by decide +kernel
theorem kS16_0_207 : Reader.signed 16 (0 * 256 + 207) = 207 := by decide +kernel
theorem kS16_0_240 : Reader.signed 16 (0 * 256 + 240) = 240 := by decide +kernel
theorem kS16_0_241 : Reader.signed 16 (0 * 256 + 241) = 241 := by decide +kernel
theorem kS16_0_255 : Reader.signed 16 (0 * 256 + 255) = 255 := by decide +kernel
theorem kS16_1_8 : Reader.signed 16 (1 * 256 + 8) = 264 := by decide +kernel
theorem kS16_1_51 : Reader.signed 16 (1 * 256 + 51) = 307 := by decide +kernel
theorem kS16_1_94 : Reader.signed 16 (1 * 256 + 94) = 350 := by decide +kernel
theorem kS16_1_137 : Reader.signed 16 (1 * 256 + 137) = 393 := by decide +kernel
theorem kS16_1_160 : Reader.signed 16 (1 * 256 + 160) = 416 := by decide +kernel
theorem kS16_1_183 : Reader.signed 16 (1 * 256 + 183) = 439 := by decide +kernel
theorem kS16_1_206 : Reader.signed 16 (1 * 256 + 206) = 462 := by decide +kernel
theorem kS16_1_219 : Reader.signed 16 (1 * 256 + 219) = 475 := by decide +kernel
theorem kS16_1_252 : Reader.signed 16 (1 * 256 + 252) = 508 := by decide +kernel
theorem kS16_2_29 : Reader.signed 16 (2 * 256 + 29) = 541 := by decide +kernel
theorem kS16_2_62 : Reader.signed 16 (2 * 256 + 62) = 574 := by decide +kernel
theorem kS16_2_95 : Reader.signed 16 (2 * 256 + 95) = 607 := by decide +kernel
theorem kS16_2_108 : Reader.signed 16 (2 * 256 + 108) = 620 := by decide +kernel
theorem kS16_2_151 : Reader.signed 16 (2 * 256 + 151) = 663 := by decide +kernel
theorem kS16_2_184 : Reader.signed 16 (2 * 256 + 184) = 696 := by decide +kernel
theorem kS16_2_207 : Reader.signed 16 (2 * 256 + 207) = 719 := by decide +kernel
theorem kS16_2_230 : Reader.signed 16 (2 * 256 + 230) = 742 := by decide +kernel
theorem kS16_2_243 : Reader.signed 16 (2 * 256 + 243) = 755 := by decide +kernel
theorem kS16_3_40 : Reader.signed 16 (3 * 256 + 40) = 808 := by decide +kernel
theorem kS16_3_73 : Reader.signed 16 (3 * 256 + 73) = 841 := by decide +kernel
theorem kS16_3_106 : Reader.signed 16 (3 * 256 + 106) = 874 := by decide +kernel
theorem kS16_3_129 : Reader.signed 16 (3 * 256 + 129) = 897 := by decide +kernel
theorem kS16_3_152 : Reader.signed 16 (3 * 256 + 152) = 920 := by decide +kernel
theorem kS16_3_175 : Reader.signed 16 (3 * 256 + 175) = 943 := by decide +kernel
theorem kS16_3_198 : Reader.signed 16 (3 * 256 + 198) = 966 := by decide +kernel
theorem kS16_4_130 : Reader.signed 16 (4 * 256 + 130) = 1154 := by decide +kernel
theorem kS16_7_71 : Reader.signed 16 (7 * 256 + 71) = 1863 := by decide +kernel
theorem kS16_48_57 : Reader.signed 16 (48 * 256 + 57) = 12345 := by decide +kernel
theorem kS16_251_123 : Reader.signed 16 (251 * 256 + 123) = -1157 := by decide +kernel
theorem kS16_255_119 : Reader.signed 16 (255 * 256 + 119) = -137 := by decide +kernel
theorem kS16_255_120 : Reader.signed 16 (255 * 256 + 120) = -136 := by decide +kernel
theorem kS16_255_131 : Reader.signed 16 (255 * 256 + 131) = -125 := by decide +kernel
theorem kS16_255_132 : Reader.signed 16 (255 * 256 + 132) = -124 := by decide +kernel
theorem kS16_255_136 : Reader.signed 16 (255 * 256 + 136) = -120 := by decide +kernel
theorem kS16_255_139 : Reader.signed 16 (255 * 256 + 139) = -117 := by decide +kernel
theorem kS16_255_142 : Reader.signed 16 (255 * 256 + 142) = -114 := by decide +kernel
theorem kS16_255_146 : Reader.signed 16 (255 * 256 + 146) = -110 := by decide +kernel
theorem kS16_255_158 : Reader.signed 16 (255 * 256 + 158) = -98 := by decide +kernel
theorem kS16_255_161 : Reader.signed 16 (255 * 256 + 161) = -95 := by decide +kernel
theorem kS16_255_169 : Reader.signed 16 (255 * 256 + 169) = -87 := by decide +kernel
theorem kS16_255_172 : Reader.signed 16 (255 * 256 + 172) = -84 := by decide +kernel
theorem kS16_255_173 : Reader.signed 16 (255 * 256 + 173) = -83 := by decide +kernel
theorem kS16_255_177 : Reader.signed 16 (255 * 256 + 177) = -79 := by decide +kernel
theorem kS16_255_178 : Reader.signed 16 (255 * 256 + 178) = -78 := by decide +kernel
theorem kS16_255_179 : Reader.signed 16 (255 * 256 + 179) = -77 := by decide +kernel
theorem kS16_255_185 : Reader.signed 16 (255 * 256 + 185) = -71 := by decide +kernel
theorem kS16_255_186 : Reader.signed 16 (255 * 256 + 186) = -70 := by decide +kernel
theorem kS16_255_187 : Reader.signed 16 (255 * 256 + 187) = -69 := by decide +kernel
theorem kS16_255_189 : Reader.signed 16 (255 * 256 + 189) = -67 := by decide +kernel
theorem kS16_255_191 : Reader.signed 16 (255 * 256 + 191) = -65 := by decide +kernel
theorem kS16_255_193 : Reader.signed 16 (255 * 256 + 193) = -63 := by decide +kernel
theorem kS16_255_194 : Reader.signed 16 (255 * 256 + 194) = -62 := by decide +kernel
theorem kS16_255_200 : Reader.signed 16 (255 * 256 + 200) = -56 := by decide +kernel
theorem kS16_255_201 : Reader.signed 16 (255 * 256 + 201) = -55 := by decide +kernel
theorem kS16_255_203 : Reader.signed 16 (255 * 256 + 203) = -53 := by decide +kernel
theorem kS16_255_208 : Reader.signed 16 (255 * 256 + 208) = -48 := by decide +kernel
theorem kS16_255_210 : Reader.signed 16 (255 * 256 + 210) = -46 := by decide +kernel
theorem kS16_255_211 : Reader.signed 16 (255 * 256 + 211) = -45 := by decide +kernel
theorem kS16_255_214 : Reader.signed 16 (255 * 256 + 214) = -42 := by decide +kernel
theorem kS16_255_216 : Reader.signed 16 (255 * 256 + 216) = -40 := by decide +kernel
theorem kS16_255_217 : Reader.signed 16 (255 * 256 + 217) = -39 := by decide +kernel
theorem kS16_255_218 : Reader.signed 16 (255 * 256 + 218) = -38 := by decide +kernel
theorem kS16_255_222 : Reader.signed 16 (255 * 256 + 222) = -34 := by decide +kernel
theorem kS16_255_223 : Reader.signed 16 (255 * 256 + 223) = -33 := by decide +kernel
theorem kS16_255_224 : Reader.signed 16 (255 * 256 + 224) = -32 := by decide +kernel
theorem kS16_255_225 : Reader.signed 16 (255 * 256 + 225) = -31 := by decide +kernel
theorem kS16_255_226 : Reader.signed 16 (255 * 256 + 226) = -30 := by decide +kernel
theorem kS16_255_228 : Reader.signed 16 (255 * 256 + 228) = -28 := by decide +kernel
theorem kS16_255_229 : Reader.signed 16 (255 * 256 + 229) = -27 := by decide +kernel
theorem kS16_255_230 : Reader.signed 16 (255 * 256 + 230) = -26 := by decide +kernel
theorem kS16_255_231 : Reader.signed 16 (255 * 256 + 231) = -25 := by decide +kernel
theorem kS16_255_232 : Reader.signed 16 (255 * 256 + 232) = -24 := by decide +kernel
theorem kS16_255_234 : Reader.signed 16 (255 * 256 + 234) = -22 := by decide +kernel
theorem kS16_255_235 : Reader.signed 16 (255 * 256 + 235) = -21 := by decide +kernel
theorem kS16_255_237 : Reader.signed 16 (255 * 256 + 237) = -19 := by decide +kernel
theorem kS16_255_238 : Reader.signed 16 (255 * 256 + 238) = -18 := by decide +kernel
theorem kS16_255_240 : Reader.signed 16 (255 * 256 + 240) = -16 := by decide +kernel
theorem kS16_255_241 : Reader.signed 16 (255 * 256 + 241) = -15 := by decide +kernel
theorem kS16_255_243 : Reader.signed 16 (255 * 256 + 243) = -13 := by decide +kernel
theorem kS8_1 : Reader.signed 8 1 = 1 := by decide +kernel
theorem kS8_4 : Reader.signed 8 4 = 4 := by decide +kernel
theorem kS8_6 : Reader.signed 8 6 = 6 := by decide +kernel
theorem kS8_7 : Reader.signed 8 7 = 7 := by decide +kernel
theorem kS8_8 : Reader.signed 8 8 = 8 := by decide +kernel
theorem kS8_9 : Reader.signed 8 9 = 9 := by decide +kernel
theorem kS8_10 : Reader.signed 8 10 = 10 := by decide +kernel
theorem kS8_16 : Reader.signed 8 16 = 16 := by decide +kernel
theorem kS8_20 : Reader.signed 8 20 = 20 := by decide +kernel
theorem kS8_23 : Reader.signed 8 23 = 23 := by decide +kernel
theorem kS8_24 : Reader.signed 8 24 = 24 := by decide +kernel
theorem kS8_25 : Reader.signed 8 25 = 25 := by decide +kernel
theorem kS8_30 : Reader.signed 8 30 = 30 := by decide +kernel
theorem kS8_31 : Reader.signed 8 31 = 31 := by decide +kernel
theorem kS8_32 : Reader.signed 8 32 = 32 := by decide +kernel
theorem kS8_39 : Reader.signed 8 39 = 39 := by decide +kernel
theorem kS8_40 : Reader.signed 8 40 = 40 := by decide +kernel
theorem kS8_45 : Reader.signed 8 45 = 45 := by decide +kernel
theorem kS8_46 : Reader.signed 8 46 = 46 := by decide +kernel
theorem kS8_48 : Reader.signed 8 48 = 48 := by decide +kernel
theorem kS8_49 : Reader.signed 8 49 = 49 := by decide +kernel
theorem kS8_57 : Reader.signed 8 57 = 57 := by decide +kernel
theorem kS8_59 : Reader.signed 8 59 = 59 := by decide +kernel
theorem kS8_60 : Reader.signed 8 60 = 60 := by decide +kernel
theorem kS8_63 : Reader.signed 8 63 = 63 := by decide +kernel
theorem kS8_64 : Reader.signed 8 64 = 64 := by decide +kernel
theorem kS8_80 : Reader.signed 8 80 = 80 := by decide +kernel
theorem kS8_96 : Reader.signed 8 96 = 96 := by decide +kernel
theorem kS8_97 : Reader.signed 8 97 = 97 := by decide +kernel
theorem kS8_99 : Reader.signed 8 99 = 99 := by decide +kernel
theorem kS8_100 : Reader.signed 8 100 = 100 := by decide +kernel
theorem kS8_102 : Reader.signed 8 102 = 102 := by decide +kernel
theorem kS8_105 : Reader.signed 8 105 = 105 := by decide +kernel
theorem kS8_111 : Reader.signed 8 111 = 111 := by decide +kernel
theorem kS8_112 : Reader.signed 8 112 = 112 := by decide +kernel
theorem kS8_115 : Reader.signed 8 115 = 115 := by decide +kernel
theorem kS8_116 : Reader.signed 8 116 = 116 := by decide +kernel
theorem kS8_119 : Reader.signed 8 119 = 119 := by decide +kernel
theorem kS8_120 : Reader.signed 8 120 = 120 := by decide +kernel
theorem kS8_246 : Reader.signed 8 246 = -10 := by decide +kernel
theorem kS8_247 : Reader.signed 8 247 = -9 := by decide +kernel
theorem kS8_252 : Reader.signed 8 252 = -4 := by decide +kernel
theorem kS8_253 : Reader.signed 8 253 = -3 := by decide +kernel
theorem kS8_254 : Reader.signed 8 254 = -2 := by decide +kernel
theorem kS8_255 : Reader.signed 8 255 = -1 := by decide +kernel

