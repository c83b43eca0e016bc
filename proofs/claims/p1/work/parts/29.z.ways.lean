theorem b_ways {l : Launch} {D : va_G} {ids : List Nat} {ad : Nat → Nat} {ca : Nat → ClassId} {p0 p1 p2 p3 : Int32} (hid : ∀ i, i < 277 → i ∈ ids) : Both l D ids ad ca yX11_ways cX11_ways 5 yX12_ways cX12_ways 10 .int [.int p0, .int p1, .int p2, .int p3] := by
  sorry
