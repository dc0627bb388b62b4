theorem dp_g2 (a b c d e f g h : Nat) : (a + 256 * (b + 256 * (c + 256 * (d + 256 * (e + 256 * (f + 256 * (g + 256 * h))))))) + (b + 256 * (c + 256 * (d + 256 * (e + 256 * (f + 256 * (g + 256 * h)))))) = ((a + b) + 256 * (b + c)) + 65536 * ((c + d) + 256 * (d + e) + 65536 * (e + f) + 16777216 * (f + g) + 4294967296 * (g + h) + 1099511627776 * h) := by omega
theorem dp_g4 (a b c d e f g h : Nat) : ((a + b) + 256 * (b + c)) + 65536 * ((c + d) + 256 * (d + e) + 65536 * (e + f) + 16777216 * (f + g) + 4294967296 * (g + h) + 1099511627776 * h) + ((c + d) + 256 * (d + e) + 65536 * (e + f) + 16777216 * (f + g) + 4294967296 * (g + h) + 1099511627776 * h) = ((a + b + c + d) + 256 * (b + c + d + e) + 65536 * (c + d + e + f) + 16777216 * (d + e + f + g)) + 4294967296 * ((e + f + g + h) + 256 * (f + g + h) + 65536 * (g + h) + 16777216 * h) := by omega
theorem dp_g6 (a b c d e f g h : Nat) : ((a + b + c + d) + 256 * (b + c + d + e) + 65536 * (c + d + e + f) + 16777216 * (d + e + f + g)) + 4294967296 * ((e + f + g + h) + 256 * (f + g + h) + 65536 * (g + h) + 16777216 * h) + ((e + f + g + h) + 256 * (f + g + h) + 65536 * (g + h) + 16777216 * h) = (a + b + c + d + e + f + g + h) + 128 * (2 * ((b + c + d + e) + (f + g + h)) + 512 * ((c + d + e + f) + (g + h)) + 131072 * ((d + e + f + g) + h) + 33554432 * ((e + f + g + h) + 256 * (f + g + h) + 65536 * (g + h) + 16777216 * h)) := by omega
theorem dp_f64 {a b c d e f g h w : Nat} (ha : a ≤ 12) (hb : b ≤ 12) (hc : c ≤ 12) (hd : d ≤ 12) (he : e ≤ 12) (hf : f ≤ 12) (hg : g ≤ 12) (hh : h ≤ 12) (hw : w = a + 256 * (b + 256 * (c + 256 * (d + 256 * (e + 256 * (f + 256 * (g + 256 * h))))))) : (w + w / 256 + (w + w / 256) / 65536 + (w + w / 256 + (w + w / 256) / 65536) / 4294967296) % 128 = a + b + c + d + e + f + g + h := by
  have k1 : a < 256 := by clear hw; omega
  have k2 : (a + b) + 256 * (b + c) < 65536 := by clear hw; omega
  have k3 : (a + b + c + d) + 256 * (b + c + d + e) + 65536 * (c + d + e + f) + 16777216 * (d + e + f + g) < 4294967296 := by clear hw; omega
  have k4 : a + b + c + d + e + f + g + h < 128 := by clear hw; omega
  have w1 : w / 256 = b + 256 * (c + 256 * (d + 256 * (e + 256 * (f + 256 * (g + 256 * h))))) := by rw [hw]; exact dp_dv k1
  have w2 := dp_g2 a b c d e f g h
  rw [← hw, ← w1] at w2
  have w3 := dp_dv (q := (c + d) + 256 * (d + e) + 65536 * (e + f) + 16777216 * (f + g) + 4294967296 * (g + h) + 1099511627776 * h) k2
  rw [← w2] at w3
  have w4 := dp_g4 a b c d e f g h
  rw [← w2, ← w3] at w4
  have w5 := dp_dv (q := (e + f + g + h) + 256 * (f + g + h) + 65536 * (g + h) + 16777216 * h) k3
  rw [← w4] at w5
  have w6 := dp_g6 a b c d e f g h
  rw [← w4, ← w5] at w6
  rw [w6, Nat.add_mul_mod_self_left, Nat.mod_eq_of_lt k4]
