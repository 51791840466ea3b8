theorem law_wp (L : Nat) (xs : Nat → Int32) (hL : L ≤ 2049) : wp_start L xs := sorry
