-- how many bits
theorem andI (a b : Nat) : nI a &&& nI b = nI (a &&& b) := by
  apply Int32.toBitVec_inj.1
  show BitVec.ofNat 32 a &&& BitVec.ofNat 32 b = BitVec.ofNat 32 (a &&& b)
  apply BitVec.eq_of_getLsbD_eq
  intro i hi
  simp [hi]
theorem and_split (k : Nat) {h l m n : Nat} (hl : l < 2 ^ k) (hn : n < 2 ^ k) : (h * 2 ^ k + l) &&& (m * 2 ^ k + n) = (h &&& m) * 2 ^ k + (l &&& n) := by
  have hln : l &&& n < 2 ^ k := Nat.lt_of_le_of_lt Nat.and_le_left hl
  apply Nat.eq_of_testBit_eq
  intro i
  rw [Nat.testBit_and, Nat.mul_comm h, Nat.mul_comm m, Nat.mul_comm (h &&& m), Nat.testBit_two_pow_mul_add h hl, Nat.testBit_two_pow_mul_add m hn, Nat.testBit_two_pow_mul_add (h &&& m) hln]
  by_cases c : i < k
  · rw [if_pos c, if_pos c, if_pos c, Nat.testBit_and]
  · rw [if_neg c, if_neg c, if_neg c, Nat.testBit_and]
theorem and_low (k : Nat) {h l n : Nat} (hl : l < 2 ^ k) (hn : n < 2 ^ k) : (h * 2 ^ k + l) &&& n = l &&& n := by
  have := and_split k (h := h) (m := 0) hl hn
  rw [Nat.zero_mul, Nat.zero_add, Nat.and_zero, Nat.zero_mul, Nat.zero_add] at this
  exact this
def G1 (m x : Nat) : Nat := x - (x / 2 &&& m)
def G2 (m x : Nat) : Nat := (x &&& m) + (x / 4 &&& m)
def G3 (m x : Nat) : Nat := (x + x / 16) &&& m
theorem G1_s (k : Nat) {A C m : Nat} (hC : C < 2 ^ (k + 4)) (hm : m < 2 ^ (k + 3)) : G1 (m * 2 ^ (k + 4) + m) (A * 2 ^ (k + 4) + C) = G1 m A * 2 ^ (k + 4) + G1 m C := by
  obtain ⟨K, hK⟩ : ∃ K, K = 2 ^ k := ⟨_, rfl⟩
  have e4 : 2 ^ (k + 4) = 16 * K := by rw [hK, Nat.pow_add, Nat.mul_comm]
  have e3 : 2 ^ (k + 3) = 8 * K := by rw [hK, Nat.pow_add, Nat.mul_comm]
  unfold G1
  have hd : (A * 2 ^ (k + 4) + C) / 2 = (A / 2) * 2 ^ (k + 4) + ((A % 2) * 2 ^ (k + 3) + C / 2) := by
    rw [e4, e3]
    have h1 : A * (16 * K) = 2 * (8 * (A * K)) := by rw [show 16 * K = 2 * (8 * K) by omega, Nat.mul_left_comm, Nat.mul_left_comm A 8]
    have h2 : A * K = 2 * ((A / 2) * K) + (A % 2) * K := by
      conv => lhs; rw [← Nat.div_add_mod A 2, Nat.add_mul, Nat.mul_assoc]
    have h3 : A / 2 * (16 * K) = 16 * (A / 2 * K) := Nat.mul_left_comm _ _ _
    have h4 : A % 2 * (8 * K) = 8 * (A % 2 * K) := Nat.mul_left_comm _ _ _
    rw [h1, h3, h4]; omega
  have hl : (A % 2) * 2 ^ (k + 3) + C / 2 < 2 ^ (k + 4) := by
    rw [e4] at hC ⊢
    rw [e3]
    have : A % 2 = 0 ∨ A % 2 = 1 := by omega
    rcases this with h | h <;> rw [h] <;> omega
  rw [hd, and_split (k + 4) hl (by rw [e4]; rw [e3] at hm; omega), and_low (k + 3) (by rw [e3]; rw [e4] at hC; omega) hm]
  have l1 : A / 2 &&& m ≤ A / 2 := Nat.and_le_left
  have l2 : C / 2 &&& m ≤ C / 2 := Nat.and_le_left
  rw [Nat.sub_mul]
  have l3 : (A / 2 &&& m) * 2 ^ (k + 4) ≤ A * 2 ^ (k + 4) := Nat.mul_le_mul_right _ (by omega)
  omega
theorem G2_s (k : Nat) {A C m : Nat} (hC : C < 2 ^ (k + 4)) (hm : m < 2 ^ (k + 2)) : G2 (m * 2 ^ (k + 4) + m) (A * 2 ^ (k + 4) + C) = G2 m A * 2 ^ (k + 4) + G2 m C := by
  obtain ⟨K, hK⟩ : ∃ K, K = 2 ^ k := ⟨_, rfl⟩
  have e4 : 2 ^ (k + 4) = 16 * K := by rw [hK, Nat.pow_add, Nat.mul_comm]
  have e3 : 2 ^ (k + 2) = 4 * K := by rw [hK, Nat.pow_add, Nat.mul_comm]
  unfold G2
  have hd : (A * 2 ^ (k + 4) + C) / 4 = (A / 4) * 2 ^ (k + 4) + ((A % 4) * 2 ^ (k + 2) + C / 4) := by
    rw [e4, e3]
    have h1 : A * (16 * K) = 4 * (4 * (A * K)) := by rw [show 16 * K = 4 * (4 * K) by omega, Nat.mul_left_comm, Nat.mul_left_comm A 4]
    have h2 : A * K = 4 * ((A / 4) * K) + (A % 4) * K := by
      conv => lhs; rw [← Nat.div_add_mod A 4, Nat.add_mul, Nat.mul_assoc]
    have h3 : A / 4 * (16 * K) = 16 * (A / 4 * K) := Nat.mul_left_comm _ _ _
    have h4 : A % 4 * (4 * K) = 4 * (A % 4 * K) := Nat.mul_left_comm _ _ _
    rw [h1, h3, h4]; omega
  have hl : (A % 4) * 2 ^ (k + 2) + C / 4 < 2 ^ (k + 4) := by
    rw [e4] at hC ⊢
    rw [e3]
    have : A % 4 = 0 ∨ A % 4 = 1 ∨ A % 4 = 2 ∨ A % 4 = 3 := by omega
    rcases this with h | h | h | h <;> rw [h] <;> omega
  have hm4 : m < 2 ^ (k + 4) := by rw [e4]; rw [e3] at hm; omega
  rw [hd, and_split (k + 4) hC hm4, and_split (k + 4) hl hm4, and_low (k + 2) (by rw [e3]; rw [e4] at hC; omega) hm, Nat.add_mul]
  omega
theorem G3_s (k : Nat) {A C m : Nat} (hC : C + C / 16 + (A % 16) * 2 ^ k < 2 ^ (k + 4)) (hm : m < 2 ^ k) : G3 (m * 2 ^ (k + 4) + m) (A * 2 ^ (k + 4) + C) = G3 m A * 2 ^ (k + 4) + G3 m C := by
  obtain ⟨K, hK⟩ : ∃ K, K = 2 ^ k := ⟨_, rfl⟩
  have e4 : 2 ^ (k + 4) = 16 * K := by rw [hK, Nat.pow_add, Nat.mul_comm]
  unfold G3
  have hd : (A * 2 ^ (k + 4) + C) / 16 = (A / 16) * 2 ^ (k + 4) + ((A % 16) * 2 ^ k + C / 16) := by
    rw [e4, ← hK]
    have h1 : A * (16 * K) = 16 * (A * K) := Nat.mul_left_comm _ _ _
    have h2 : A * K = 16 * ((A / 16) * K) + (A % 16) * K := by
      conv => lhs; rw [← Nat.div_add_mod A 16, Nat.add_mul, Nat.mul_assoc]
    have h3 : A / 16 * (16 * K) = 16 * (A / 16 * K) := Nat.mul_left_comm _ _ _
    rw [h1, h3]; omega
  have hs : A * 2 ^ (k + 4) + C + ((A / 16) * 2 ^ (k + 4) + ((A % 16) * 2 ^ k + C / 16)) = (A + A / 16) * 2 ^ (k + 4) + (C + C / 16 + (A % 16) * 2 ^ k) := by
    rw [Nat.add_mul]; omega
  have hm4 : m < 2 ^ (k + 4) := by rw [e4]; rw [← hK] at hm; omega
  have hlow : (C + C / 16 + (A % 16) * 2 ^ k) &&& m = (C + C / 16) &&& m := by
    have hw := Nat.div_add_mod (C + C / 16) (2 ^ k)
    have hw2 : (C + C / 16) % 2 ^ k < 2 ^ k := Nat.mod_lt _ (Nat.two_pow_pos k)
    have e1 : C + C / 16 + (A % 16) * 2 ^ k = ((C + C / 16) / 2 ^ k + A % 16) * 2 ^ k + (C + C / 16) % 2 ^ k := by
      rw [Nat.add_mul, Nat.mul_comm ((C + C / 16) / 2 ^ k)]; omega
    rw [e1, and_low k hw2 hm]
    conv => rhs; rw [← hw, Nat.mul_comm, and_low k hw2 hm]
  rw [hd, hs, and_split (k + 4) hC hm4, hlow]
def pN (n x : Nat) : Nat := sN (fun j => (x.testBit j).toNat) n
theorem pop8 : ∀ c, c < 256 → G2 51 (G1 85 c) ≤ 68 ∧ G2 51 (G1 85 c) % 16 ≤ 4 ∧ G3 15 (G2 51 (G1 85 c)) = pN 8 c := by decide +kernel
theorem sN_shift (f : Nat → Nat) (a : Nat) : ∀ k, sN f (a + k) = sN f a + sN (fun j => f (a + j)) k := by
  intro k
  induction k with
  | zero => rfl
  | succ k ih => show sN f (a + k) + f (a + k) = _; rw [ih]; show _ = sN f a + (sN (fun j => f (a + j)) k + f (a + k)); omega
theorem pN_split (k n : Nat) {A C : Nat} (hC : C < 2 ^ k) : pN (k + n) (A * 2 ^ k + C) = pN k C + pN n A := by
  unfold pN
  rw [sN_shift]
  congr 1
  · apply sN_cong; intro j hj
    rw [Nat.mul_comm, Nat.testBit_two_pow_mul_add A hC, if_pos hj]
  · apply sN_cong; intro j hj
    rw [Nat.mul_comm, Nat.testBit_two_pow_mul_add A hC, if_neg (by omega), Nat.add_sub_cancel_left]
theorem pN_le (n x : Nat) : pN n x ≤ n := by
  unfold pN
  induction n with
  | zero => exact Nat.le_refl _
  | succ n ih =>
    simp only [sN]
    have : (x.testBit n).toNat ≤ 1 := by cases x.testBit n <;> decide
    omega
theorem pop16 {x : Nat} (hx : x < 65536) : G2 13107 (G1 21845 x) ≤ 17476 ∧ G2 13107 (G1 21845 x) % 16 ≤ 4 ∧ ∃ a c, a ≤ 8 ∧ c ≤ 8 ∧ G3 3855 (G2 13107 (G1 21845 x)) = a * 256 + c ∧ a + c = pN 16 x := by
  obtain ⟨A, C, hA, hC, rfl⟩ : ∃ A C, A < 256 ∧ C < 256 ∧ x = A * 2 ^ (4 + 4) + C := ⟨x / 256, x % 256, by omega, by omega, by omega⟩
  have pa := pop8 A hA
  have pc := pop8 C hC
  have gC : G1 85 C < 256 := Nat.lt_of_le_of_lt (Nat.sub_le _ _) hC
  rw [show 21845 = 85 * 2 ^ (4 + 4) + 85 from rfl, G1_s 4 hC (by decide), show 13107 = 51 * 2 ^ (4 + 4) + 51 from rfl, G2_s 4 gC (by decide)]
  refine ⟨?_, ?_, pN 8 A, pN 8 C, pN_le 8 A, pN_le 8 C, ?_, ?_⟩
  · have : 2 ^ (4 + 4) = 256 := rfl
    rw [this]; omega
  · have : 2 ^ (4 + 4) = 256 := rfl
    rw [this]; omega
  · rw [show 3855 = 15 * 2 ^ (4 + 4) + 15 from rfl, G3_s 4 (by have : 2 ^ 4 = 16 := rfl
                                                               have : 2 ^ (4 + 4) = 256 := rfl
                                                               omega) (by decide), pa.2.2, pc.2.2]
  · have := pN_split 8 8 (A := A) hC
    rw [show 8 + 8 = 16 from rfl] at this
    rw [show 2 ^ (4 + 4) = 2 ^ 8 from rfl, this, Nat.add_comm]
theorem swar_end {p q r s : Nat} (hp : p ≤ 8) (hq : q ≤ 8) (hr : r ≤ 8) (hs : s ≤ 8) : (p * 256 + q) * 65536 + (r * 256 + s) < 2147483648 ∧ (((p * 256 + q) * 65536 + (r * 256 + s)) + ((p * 256 + q) * 65536 + (r * 256 + s)) / 256 + (((p * 256 + q) * 65536 + (r * 256 + s)) + ((p * 256 + q) * 65536 + (r * 256 + s)) / 256) / 65536) % 64 = r + s + (p + q) := by
  have t1 : ((p * 256 + q) * 65536 + (r * 256 + s)) / 256 = (p * 256 + q) * 256 + r := by omega
  have t2 : ((p * 256 + q) * 65536 + (r * 256 + s) + ((p * 256 + q) * 256 + r)) / 65536 = p * 257 + q := by
    rw [show (p * 256 + q) * 65536 + (r * 256 + s) + ((p * 256 + q) * 256 + r) = 65536 * (p * 257 + q) + (r * 257 + s + q * 256) by omega, Nat.mul_add_div (by decide), Nat.div_eq_of_lt (by omega), Nat.add_zero]
  rw [t1, t2]
  refine ⟨by omega, ?_⟩
  rw [show (p * 256 + q) * 65536 + (r * 256 + s) + ((p * 256 + q) * 256 + r) + (p * 257 + q) = 64 * ((p * 256 + q) * 1024 + r * 4 + (p * 256 + q) * 4 + p * 4) + (r + s + (p + q)) by omega, Nat.mul_add_mod, Nat.mod_eq_of_lt (by omega)]
theorem swar_mid {a c : Nat} (ha : a ≤ 17476) (hc : c ≤ 17476) (ha2 : a % 16 ≤ 4) : c + c / 16 + (a % 16) * 4096 < 65536 ∧ a * 65536 + c < 2147483648 := by omega
theorem pop30 {B : Nat} (hB : B < 1073741824) : ∃ T, G3 252645135 (G2 858993459 (G1 1431655765 B)) = T ∧ T < 2147483648 ∧ G2 858993459 (G1 1431655765 B) < 2147483648 ∧ (T + T / 256 + (T + T / 256) / 65536) % 64 = pN 30 B := by
  obtain ⟨A, C, hA, hC, rfl⟩ : ∃ A C, A < 16384 ∧ C < 65536 ∧ B = A * 2 ^ (12 + 4) + C := ⟨B / 65536, B % 65536, by omega, by omega, by omega⟩
  obtain ⟨a1, a2, p, q, hp, hq, a3, a4⟩ := pop16 (show A < 65536 by omega)
  obtain ⟨c1, c2, r, s, hr, hs, c3, c4⟩ := pop16 hC
  have gC : G1 21845 C < 65536 := Nat.lt_of_le_of_lt (Nat.sub_le _ _) hC
  have mid := swar_mid a1 c1 a2
  rw [show 1431655765 = 21845 * 2 ^ (12 + 4) + 21845 from rfl, G1_s 12 hC (by decide), show 858993459 = 13107 * 2 ^ (12 + 4) + 13107 from rfl, G2_s 12 gC (by decide), show 252645135 = 3855 * 2 ^ (12 + 4) + 3855 from rfl, G3_s 12 mid.1 (by decide), a3, c3]
  have fin := swar_end hp hq hr hs
  refine ⟨_, rfl, fin.1, mid.2, fin.2.trans ?_⟩
  have h30 := pN_split 16 14 (A := A) hC
  have h14 : pN 16 A = pN 14 A := by
    have e := sN_shift (fun j => (A.testBit j).toNat) 14 2
    have z14 : A.testBit 14 = false := Nat.testBit_lt_two_pow (show A < 2 ^ 14 from hA)
    have z15 : A.testBit 15 = false := Nat.testBit_lt_two_pow (Nat.lt_trans hA (by decide))
    have e2 : sN (fun j => (A.testBit (14 + j)).toNat) 2 = 0 := by
      show 0 + (A.testBit (14 + 0)).toNat + (A.testBit (14 + 1)).toNat = 0
      rw [show 14 + 0 = 14 from rfl, show 14 + 1 = 15 from rfl, z14, z15]; rfl
    show sN _ (14 + 2) = _
    rw [e, e2]; rfl
  rw [c4, a4, h14]
  exact h30.symm
theorem bc30 {B : Nat} (hB : B < 1073741824) : p_J6_bitCount_0f7a4 (nI B) = some (nI (pN 30 B)) := by
  obtain ⟨T, hT, hT2, hZ, hR⟩ := pop30 hB
  have hg1 : (B / 2 &&& 1431655765) ≤ B := Nat.le_trans Nat.and_le_left (Nat.div_le_self _ _)
  have s1 : nI B - ((((nI B).toUInt32 >>> ((1 : Int32).toUInt32 &&& Int32.toUInt32 31)).toInt32) &&& 1431655765) = nI (G1 1431655765 B) := by
    rw [pk_ushrN (by omega) 1 1 (by decide), Nat.pow_one, show (1431655765 : Int32) = nI 1431655765 from rfl, andI, pk_sub hg1]; rfl
  have hG1 : G1 1431655765 B < 2 ^ 32 := Nat.lt_of_le_of_lt (Nat.sub_le _ _) (by omega)
  have s2 : ((nI (G1 1431655765 B)) &&& 858993459) + ((((nI (G1 1431655765 B)).toUInt32 >>> ((2 : Int32).toUInt32 &&& Int32.toUInt32 31)).toInt32) &&& 858993459) = nI (G2 858993459 (G1 1431655765 B)) := by
    rw [pk_ushrN hG1 2 2 (by decide), show (858993459 : Int32) = nI 858993459 from rfl, andI, andI, nI_add]; rfl
  have s3 : ((nI (G2 858993459 (G1 1431655765 B)) + (((nI (G2 858993459 (G1 1431655765 B))).toUInt32 >>> ((4 : Int32).toUInt32 &&& Int32.toUInt32 31)).toInt32)) &&& 252645135) = nI T := by
    rw [pk_ushrN (Nat.lt_trans hZ (by decide)) 4 4 (by decide), show (252645135 : Int32) = nI 252645135 from rfl, nI_add, andI, ← hT]; rfl
  unfold p_J6_bitCount_0f7a4
  have hT3 : T + T / 256 < 2 ^ 32 := by omega
  rw [s1, some_bind', s2, s3, some_bind', pk_ushrN (Nat.lt_trans hT2 (by decide)) 8 8 (by decide), nI_add, pk_ushrN hT3 16 16 (by decide), nI_add, pk_andN (by omega) 6 (by decide)]
  rw [show 2 ^ 8 = 256 from rfl, show 2 ^ 16 = 65536 from rfl, show 2 ^ 6 = 64 from rfl, hR]
-- alike
theorem bitN {B k : Nat} (hB : B < 1073741824) (hk : k < 31) : (((nI B >>> (nI k &&& 31)) &&& 1) = 0) ↔ B.testBit k = false := by
  have hs : ∀ k, k < 31 → ((nI k &&& 31).toBitVec.smod 32).toNat = k := by decide
  rw [pk_shrN (by omega) _ k (hs k hk), pk_andN (Nat.lt_of_le_of_lt (Nat.div_le_self _ _) (by omega)) 1 (by decide), show (0 : Int32) = nI 0 from rfl, nI_eq (by omega) (by decide), Nat.pow_one, Nat.testBit_eq_decide_div_mod_eq]
  simp
def lwU (B : Nat) : Nat → Nat → Option Nat
  | 0, _ => none
  | k + 1, j => if B.testBit j then some j else lwU B k (j + 1)
def cU (B : Nat) : Nat → Nat → Nat
  | 0, _ => 0
  | k + 1, j => cU B k (j + 1) + (B.testBit j).toNat
def lwV (o : Option Nat) : Int32 := match o with
  | none => -1
  | some i => nI (i + 2)
theorem cU_pN (B : Nat) : ∀ k j, cU B k j = sN (fun i => (B.testBit (j + i)).toNat) k := by
  intro k
  induction k with
  | zero => intro j; rfl
  | succ k ih =>
    intro j
    have e := sN_shift (fun i => (B.testBit (j + i)).toNat) 1 k
    rw [Nat.add_comm 1 k] at e
    rw [e]
    show cU B k (j + 1) + (B.testBit j).toNat = _
    rw [ih (j + 1)]
    have e2 : sN (fun i => (B.testBit (j + i)).toNat) 1 = (B.testBit j).toNat := by show 0 + (B.testBit (j + 0)).toNat = _; rw [Nat.zero_add, Nat.add_zero]
    rw [e2, Nat.add_comm]
    congr 1
    apply sN_cong; intro i _; rw [show j + 1 + i = j + (1 + i) by omega]
theorem lwU_some {B : Nat} : ∀ k j i, lwU B k j = some i → j ≤ i ∧ i < j + k := by
  intro k
  induction k with
  | zero => intro j i h; cases h
  | succ k ih =>
    intro j i h
    unfold lwU at h
    by_cases hb : B.testBit j = true
    · rw [if_pos hb] at h; cases h; omega
    · rw [if_neg hb] at h; have := ih _ _ h; omega
theorem c_least_loop {B : Nat} (hB : B < 1073741824) : ∀ k j n : Nat, j + k = 30 → k < n → p_X12_leastBase_2 n (nI B) (nI j) = some (lwV (lwU B k j)) := by
  intro k
  induction k with
  | zero =>
    intro j n hj hn
    obtain ⟨n, rfl⟩ : ∃ m, n = m + 1 := ⟨n - 1, by omega⟩
    unfold p_X12_leastBase_2
    rw [if_pos (le_t (c := 30) (by omega) (by omega))]; rfl
  | succ k ih =>
    intro j n hj hn
    obtain ⟨n, rfl⟩ : ∃ m, n = m + 1 := ⟨n - 1, by omega⟩
    unfold p_X12_leastBase_2 lwU
    rw [if_neg (le_f (c := 30) (by omega) (by decide)), nI_1]
    have hb := bitN hB (show j < 31 by omega)
    by_cases hh : B.testBit j = true
    · rw [if_neg (fun e => by rw [hb.1 e] at hh; exact absurd hh (by decide)), if_pos hh, show (2 : Int32) = nI 2 from rfl, nI_add]; rfl
    · rw [if_pos (hb.2 (by simpa using hh)), if_neg hh]
      exact ih (j + 1) n (by omega) (by omega)
theorem m_alike_loop {B : Nat} {gth x1 : Int32} (hB : B < 1073741824) : ∀ (j n : Nat), j ≤ 30 → j < n → p_X13_alike_51 n gth x1 (nI B) (lwV (lwU B (30 - j) j)) (nI (cU B (30 - j) j)) (nI j - 1) = p_X13_alike_51 1 gth x1 (nI B) (lwV (lwU B 30 0)) (nI (cU B 30 0)) (-1) := by
  intro j
  induction j with
  | zero =>
    intro n _ hn
    obtain ⟨n, rfl⟩ : ∃ m, n = m + 1 := ⟨n - 1, by omega⟩
    unfold p_X13_alike_51
    rw [if_pos (nI_neg rfl), if_pos (show (-1 : Int32) < 0 by decide)]
  | succ j ih =>
    intro n hj hn
    obtain ⟨n, rfl⟩ : ∃ m, n = m + 1 := ⟨n - 1, by omega⟩
    have hi := ih n (by omega) (by omega)
    have e1 : lwU B (30 - j) j = if B.testBit j then some j else lwU B (30 - (j + 1)) (j + 1) := by rw [show 30 - j = (30 - (j + 1)) + 1 by omega]; rfl
    have e2 : cU B (30 - j) j = cU B (30 - (j + 1)) (j + 1) + (B.testBit j).toNat := by rw [show 30 - j = (30 - (j + 1)) + 1 by omega]; rfl
    rw [e1, e2] at hi
    conv => lhs; unfold p_X13_alike_51
    unfold p_X13_alike_76
    rw [pred_nI (by omega), Nat.add_sub_cancel, if_neg (nI_pos (by omega))]
    have hb := bitN hB (show j < 31 by omega)
    rw [show nI j - 1 = nI j + -1 from by rw [Int32.sub_eq_add_neg]] at hi
    by_cases hh : B.testBit j = true
    · rw [if_neg (fun e => by rw [hb.1 e] at hh; exact absurd hh (by decide)), show (2 : Int32) = nI 2 from rfl, nI_add, nI_1]
      rw [if_pos hh, hh] at hi
      exact hi
    · rw [if_pos (hb.2 (by simpa using hh))]
      rw [if_neg hh, show B.testBit j = false from by simpa using hh] at hi
      exact hi
theorem c_power_loop {b m : Nat} (hm : m ≤ 5) : ∀ k j n : Nat, j + k = m → k < n → p_X12_power_4 n (nI b) (nI m) (nI (b ^ j)) (nI j) = some (nI (b ^ m)) := by
  intro k
  induction k with
  | zero =>
    intro j n hj hn
    obtain ⟨n, rfl⟩ : ∃ m, n = m + 1 := ⟨n - 1, by omega⟩
    have hj : j = m := by omega
    subst hj
    unfold p_X12_power_4
    rw [if_pos (nI_le (Nat.le_refl _) (by omega))]
  | succ k ih =>
    intro j n hj hn
    obtain ⟨n, rfl⟩ : ∃ m, n = m + 1 := ⟨n - 1, by omega⟩
    have hi := ih (j + 1) n (by omega) (by omega)
    unfold p_X12_power_4
    rw [if_neg (nI_ge (by omega) (by omega)), pk_mul, nI_1]
    rw [Nat.pow_succ] at hi
    exact hi
theorem q_alike (gth x1 x2 : Int32) : ∃ v r t, p_X12_alike x1 x2 = some (v, ()) ∧ p_X13_alike gth x1 x2 = some (r, t) ∧ Ag1 2 v r t := by
  unfold p_X12_alike p_X13_alike p_X13_within p_X13_alike_32 p_X13_alike_33
  by_cases h1 : x1 < 1
  · rw [if_pos h1, if_pos h1]; exact ⟨_, _, _, rfl, rfl, Or.inr ⟨rfl, rfl⟩⟩
  · rw [if_neg h1, if_neg h1]
    have i1 : (1 : Int32).toInt = 1 := by decide
    have i9 : (9999 : Int32).toInt = 9999 := by decide
    by_cases h2 : (9999 : Int32) < x1
    · rw [if_neg (fun e => by rw [Int32.le_iff_toInt_le] at e; rw [Int32.lt_iff_toInt_lt] at h2; omega), if_pos h2]; exact ⟨_, _, _, rfl, rfl, Or.inr ⟨rfl, rfl⟩⟩
    · rw [if_pos (by rw [Int32.le_iff_toInt_le]; rw [Int32.lt_iff_toInt_lt] at h2; omega), if_neg h2, some_bind', if_neg n10]
      by_cases h3 : x2 ≤ 0
      · rw [if_pos h3, if_pos h3]; exact ⟨_, _, _, rfl, rfl, Or.inr ⟨rfl, rfl⟩⟩
      · rw [if_neg h3, if_neg h3]
        have i0 : (0 : Int32).toInt = 0 := by decide
        obtain ⟨B, hB, rfl⟩ := nI_of (x := x2) (fun e => h3 (by rw [Int32.le_iff_toInt_le]; rw [Int32.lt_iff_toInt_lt] at e; omega))
        rw [Int32.lt_iff_toInt_lt] at h1 h2
        obtain ⟨w, hw, rfl⟩ := nI_of (x := x1) (fun e => by rw [Int32.lt_iff_toInt_lt] at e; omega)
        rw [nI_toInt (by omega)] at h1 h2
        have hB0 : 0 < B := Nat.pos_of_ne_zero (fun e => h3 (by rw [e]; decide))
        rw [pk_shrN (by omega) (30 &&& 31) 30 (by decide)]
        by_cases h4 : B < 1073741824
        · rw [if_pos (eq_t (c := 0) (Nat.div_eq_of_lt h4)), if_neg (le_f (c := 1073741824) h4 (by decide)), show p_X13_right 0 1 1 = some (1, 0) from rfl, some_bind', if_neg n10]
          have cl : p_X12_leastBase (nI B) = _ := c_least_loop h4 30 0 fu (by omega) (fu_lt (by decide))
          have ml := m_alike_loop (gth := 0) (x1 := nI w) h4 30 fu (by omega) (fu_lt (by decide))
          have ml : p_X13_alike_51 fu 0 (nI w) (nI B) (-1) 0 29 = _ := ml
          have hcnt : cU B 30 0 = pN 30 B := by rw [cU_pN]; unfold pN; apply sN_cong; intro i _; rw [Nat.zero_add]
          have hpn := pN_le 30 B
          rw [cl, some_bind', bc30 h4, some_bind', ml, hcnt]
          have hsome : ∃ i, lwU B 30 0 = some i ∧ i < 30 := by
            cases hlw : lwU B 30 0 with
            | some i => exact ⟨i, rfl, by have := lwU_some _ _ _ hlw; omega⟩
            | none =>
              exfalso
              have hall : ∀ k j, lwU B k j = none → ∀ i, j ≤ i → i < j + k → B.testBit i = false := by
                intro k
                induction k with
                | zero => intro j _ i h1 h2; omega
                | succ k ih =>
                  intro j hj i h1 h2
                  unfold lwU at hj
                  by_cases hb : B.testBit j = true
                  · rw [if_pos hb] at hj; cases hj
                  · rw [if_neg hb] at hj
                    by_cases e : i = j
                    · subst e; simpa using hb
                    · exact ih (j + 1) hj i (by omega) (by omega)
              have hz : B = 0 := Nat.eq_of_testBit_eq (fun i => by
                rw [Nat.zero_testBit]
                by_cases hi : i < 30
                · exact hall 30 0 hlw i (by omega) (by omega)
                · exact Nat.testBit_lt_two_pow (Nat.lt_of_lt_of_le h4 (Nat.pow_le_pow_right (n := 2) (by decide) (show 30 ≤ i by omega))))
              omega
          obtain ⟨i, hi1, hi2⟩ := hsome
          rw [hi1]
          unfold p_X13_alike_51 p_X12_alike_62 p_X13_alike_106 lwV
          rw [if_pos (show (-1 : Int32) < 0 by decide)]
          have fin : ∀ m, 1 ≤ m → m ≤ 5 → ∀ y, y = nI ((i + 2) ^ m) → ∃ v r t, ((p_X12_power (nI (i + 2)) (nI m)).bind fun v1 => ((p_X12_dividedUp (nI w) (v1 - 1)).bind fun v3 => some ((Sum.inl v3 : Int32 ⊕ Nat), ()))) = some (v, ()) ∧ (if ¬ (y - 1) = 0 then some (((nI w + (y - 1)) - 1) / (y - 1), (0 : Int32)) else none) = some (r, t) ∧ Ag1 2 v r t := by
            intro m hm1 hm hy1 hy
            have hpow : (i + 2) ^ m ≤ 31 ^ 5 := Nat.le_trans (Nat.pow_le_pow_left (by omega) m) (Nat.pow_le_pow_right (by decide) hm)
            rw [show 31 ^ 5 = 28629151 from by decide] at hpow
            have hpow2 : 2 ≤ (i + 2) ^ m := by
              have h := Nat.pow_le_pow_left (show 2 ≤ i + 2 by omega) m
              have h' : 2 ^ 1 ≤ 2 ^ m := Nat.pow_le_pow_right (by decide) hm1
              omega
            have cp : p_X12_power (nI (i + 2)) (nI m) = _ := c_power_loop (b := i + 2) hm m 0 fu (by omega) (fu_lt (by omega))
            rw [cp, some_bind', hy]
            unfold p_X12_dividedUp
            rw [pred_nI (by omega), if_pos (le_t (c := 1) (by omega) (by omega)), if_pos (fun e => eq_f (c := 0) (d := (i + 2) ^ m - 1) (by omega) (by omega) (by decide) e), if_pos (fun e => eq_f (c := 0) (d := (i + 2) ^ m - 1) (by omega) (by omega) (by decide) e), some_bind']
            exact ⟨_, _, _, rfl, rfl, Or.inl ⟨rfl, rfl⟩⟩
          by_cases h5 : pN 30 B = 1
          · rw [if_pos (eq_t (c := 1) h5), if_pos (eq_t (c := 1) h5)]
            exact fin 5 (by decide) (by decide) _ (by rw [pk_mul, pk_mul, pk_mul, pk_mul]; congr 1; simp [Nat.pow_succ])
          · rw [if_neg (eq_f (c := 1) h5 (by omega) (by decide)), if_neg (eq_f (c := 1) h5 (by omega) (by decide))]
            exact fin 1 (by decide) (by decide) _ (by rw [Nat.pow_one])
        · rw [if_neg (eq_f (c := 0) (by omega) (by omega) (by decide)), if_pos (le_t (c := 1073741824) (by omega) (by omega))]
          exact ⟨_, _, _, rfl, rfl, Or.inr ⟨rfl, rfl⟩⟩
