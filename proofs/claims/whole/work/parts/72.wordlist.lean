def w_L : List (List Nat) := [[100, 114, 111, 110, 101], [104, 111, 110, 101, 121], [100, 101, 97, 108], [109, 111, 118, 101, 115], [103, 105, 118, 101, 115], [103, 101, 116, 115], [98, 101, 103, 105, 110], [99, 114, 97, 115, 104], [119, 97, 107, 101], [113, 117, 101, 101, 110], [119, 104, 101, 110], [100, 97, 121], [100, 111, 110, 101], [98, 108, 111, 99, 107, 101, 100], [119, 97, 105, 116, 115], [111, 102], [97, 119, 97, 107, 101], [110, 111, 116], [97, 110, 100], [111, 114], [109, 105, 110], [109, 97, 120]]
theorem w_as : ∀ k, k < 22 → s_as (w_L.getD k []) := by unfold s_as; decide +kernel
/-- the reference's words, as the law's start has them -/
def x_Wd (Y : x_Y) (wa : Nat) (sa st : Nat → Nat) : Prop := va_Z "HoneyAccordModel" "WORDS" "[Ljava/lang/String;" (.ref wa) (x_fr Y) Y.1 Y.1.heap ∧ va_T (.object "java/lang/String") wa 22 (fun k => .ref (sa k)) (x_fr Y) Y.1 Y.1.heap ∧ ∀ k, k < 22 → x_Str Y (sa k) (st k) (w_L.getD k [])
def r_wq (f : Nat → Int32) (at9 len k : Nat) : Bool := decide ((w_L.getD k []).length = len) && h_all (fun i => decide (nI ((w_L.getD k []).getD i 0) = f (at9 + i))) len
def r_wlp (f : Nat → Int32) (at9 len : Nat) : Nat → Nat → Int32
  | 0, _ => 40
  | w + 1, k => if r_wq f at9 len k = true then nI k else r_wlp f at9 len w (k + 1)
def r_word (f : Nat → Int32) (at9 len : Nat) : Int32 := r_wlp f at9 len 22 0
