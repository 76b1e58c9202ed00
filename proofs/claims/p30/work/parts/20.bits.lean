/-! bits -/
theorem nI_and (a b : Nat) : nI a &&& nI b = nI (a &&& b) := by
  apply Int32.toBitVec_inj.mp
  show BitVec.ofNat 32 a &&& BitVec.ofNat 32 b = BitVec.ofNat 32 (a &&& b)
  rw [BitVec.ofNat_and]
/-- how many bits -/
def pop10 (f : Nat) : Nat := (List.range 10).countP (fun c => f.testBit c)
def bc1 (x : Int32) : Int32 := x - ((x.toUInt32 >>> ((nI 1).toUInt32 &&& Int32.toUInt32 31)).toInt32 &&& 1431655765)
def bc2 (x : Int32) : Int32 := (x &&& 858993459) + ((x.toUInt32 >>> ((nI 2).toUInt32 &&& Int32.toUInt32 31)).toInt32 &&& 858993459)
def bc3 (x : Int32) : Int32 := (x + (x.toUInt32 >>> ((nI 4).toUInt32 &&& Int32.toUInt32 31)).toInt32) &&& 252645135
def bc4 (x : Int32) : Int32 := x + (x.toUInt32 >>> ((nI 8).toUInt32 &&& Int32.toUInt32 31)).toInt32
def bc5 (x : Int32) : Int32 := x + (x.toUInt32 >>> ((nI 16).toUInt32 &&& Int32.toUInt32 31)).toInt32
def bcI (x : Int32) : Int32 := bc5 (bc4 (bc3 (bc2 (bc1 x)))) &&& nI 63
theorem bc_pop : ∀ f, f < 1024 → bcI (nI f) = nI (pop10 f) := by decide +kernel
theorem cl_k265 : Cond.constant RJ6 265 1431655765 ∈ mx_TW := mx_in 417 (by decide +kernel) (by decide +kernel)
theorem cl_k266 : Cond.constant RJ6 266 858993459 ∈ mx_TW := mx_in 418 (by decide +kernel) (by decide +kernel)
theorem cl_k267 : Cond.constant RJ6 267 252645135 ∈ mx_TW := mx_in 419 (by decide +kernel) (by decide +kernel)
theorem dk_in : ∀ k, k < 13 → ((0 ≤ dr k ∧ dr k < nI 10) ↔ (1 ≤ k ∧ k ≤ 10)) := by decide +kernel
theorem dr_s (c : Nat) : dr (c + 1) = nI c := by unfold dr; exact pk_sub (by omega)
theorem tb_1 : ∀ f, f < 2048 → ∀ c, c < 10 → (nI f >>> (nI c &&& 31)) &&& nI 1 = nI (f.testBit c).toNat := by decide +kernel
theorem p2_1 : ∀ c, c < 10 → nI 1 <<< (nI c &&& 31) = nI (2 ^ c) := by decide +kernel
def spr (f : Nat) : Nat := f ||| (2 * f) ||| (f / 2)
theorem spr_1 : ∀ f, f < 1024 → nI f ||| (nI f <<< (nI 1 &&& 31)) ||| (nI f >>> (nI 1 &&& 31)) = nI (spr f) := by decide +kernel
theorem spr_2 : ∀ f, f < 1024 → spr f < 2048 := by decide +kernel
theorem and_lt {a b n : Nat} (h : b < n) : a &&& b < n := Nat.lt_of_le_of_lt Nat.and_le_right h
