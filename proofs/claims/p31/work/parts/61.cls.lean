theorem c_place {l : Launch} {D : va_G} {ids : List Nat} {ad : Nat → Nat} {ca : Nat → ClassId} {σ : HS} (hid : ∀ i, i < 277 → i ∈ ids) (hG : GIc σ) (hT : TX σ) : Ki l D ids ad ca yX11_place cX11_place 1 .int 0 0 [.ref (ad 0)] σ (fun r σ1 => (σ1 = σ)) := by
  rcases hT with ⟨t0, t1⟩ | ⟨t0, t1⟩
  · exact S_X11_place_0_t30 hid hG t0 t1
  · exact S_X11_place_0_t43 hid hG t0 t1
theorem c_thing {l : Launch} {D : va_G} {ids : List Nat} {ad : Nat → Nat} {ca : Nat → ClassId} {σ : HS} {x1 : Int32} {x2 : Int32} (hid : ∀ i, i < 277 → i ∈ ids) (hG : GIc σ) (hT : TX σ) : Ki l D ids ad ca yX11_thing cX11_thing 3 .int 1 21 [.ref (ad 0), .int x1, .int x2] σ (fun r σ1 => (σ1 = σ)) := by
  rcases hT with ⟨t0, t1⟩ | ⟨t0, t1⟩
  · exact S_X11_thing_0_t30 hid hG t0 t1
  · exact S_X11_thing_0_t43 hid hG t0 t1
theorem c_pattern {l : Launch} {D : va_G} {ids : List Nat} {ad : Nat → Nat} {ca : Nat → ClassId} {σ : HS} {x1 : Int32} {x2 : Int32} (hid : ∀ i, i < 277 → i ∈ ids) (hG : GIc σ) (hT : TX σ) : Ki l D ids ad ca yX11_pattern cX11_pattern 3 .int 1 21 [.ref (ad 0), .int x1, .int x2] σ (fun r σ1 => (σ1 = σ)) := by
  rcases hT with ⟨t0, t1⟩ | ⟨t0, t1⟩
  · exact S_X11_pattern_0_t30 hid hG t0 t1
  · exact S_X11_pattern_0_t43 hid hG t0 t1
theorem c_tells {l : Launch} {D : va_G} {ids : List Nat} {ad : Nat → Nat} {ca : Nat → ClassId} {σ : HS} {x1 : Int32} {x2 : Int32} {x3 : Int32} (hid : ∀ i, i < 277 → i ∈ ids) (hG : GIc σ) (hT : TX σ) : Ki l D ids ad ca yX11_tells cX11_tells 5 .int 3 74 [.ref (ad 0), .int x1, .int x2, .int x3] σ (fun r σ1 => (GIc σ1) ∧ (ony [9, 10, 11] σ σ1)) := by
  rcases hT with ⟨t0, t1⟩ | ⟨t0, t1⟩
  · exact S_X11_tells_0_t30 hid hG t0 t1
  · exact S_X11_tells_0_t43 hid hG t0 t1
theorem c_throwIn {l : Launch} {D : va_G} {ids : List Nat} {ad : Nat → Nat} {ca : Nat → ClassId} {σ : HS} {x1 : Int32} {x2 : Int32} (hid : ∀ i, i < 277 → i ∈ ids) (hG : GIc σ) (hT : TX σ) : Ki l D ids ad ca yX11_throwIn cX11_throwIn 3 .boolean 3 102 [.ref (ad 0), .int x1, .int x2] σ (fun r σ1 => (GIc σ1) ∧ (ony ([12, 57, 58] ++ ringN 160) σ σ1) ∧ (0 ≤ r.toInt ∧ r.toInt ≤ 1)) := by
  rcases hT with ⟨t0, t1⟩ | ⟨t0, t1⟩
  · exact S_X11_throwIn_0_t30 hid hG t0 t1
  · exact S_X11_throwIn_0_t43 hid hG t0 t1
theorem c_use {l : Launch} {D : va_G} {ids : List Nat} {ad : Nat → Nat} {ca : Nat → ClassId} {σ : HS} {x1 : Int32} (hid : ∀ i, i < 277 → i ∈ ids) (hG : GIc σ) (hT : TX σ) : Ki l D ids ad ca yX11_use cX11_use 2 .boolean 3 102 [.ref (ad 0), .int x1] σ (fun r σ1 => (GIc σ1) ∧ (ony ([12, 56] ++ ringN 160) σ σ1) ∧ (0 ≤ r.toInt ∧ r.toInt ≤ 1)) := by
  rcases hT with ⟨t0, t1⟩ | ⟨t0, t1⟩
  · exact S_X11_use_0_t30 hid hG t0 t1
  · exact S_X11_use_0_t43 hid hG t0 t1
theorem c_set {l : Launch} {D : va_G} {ids : List Nat} {ad : Nat → Nat} {ca : Nat → ClassId} {σ : HS} {x1 : Int32} (hid : ∀ i, i < 277 → i ∈ ids) (hG : GIc σ) (hT : TX σ) : Ki l D ids ad ca yX11_set cX11_set 2 .boolean 3 102 [.ref (ad 0), .int x1] σ (fun r σ1 => (GIc σ1) ∧ (ony ([12, 56] ++ ringN 160) σ σ1) ∧ (0 ≤ r.toInt ∧ r.toInt ≤ 1)) := by
  rcases hT with ⟨t0, t1⟩ | ⟨t0, t1⟩
  · exact S_X11_set_0_t30 hid hG t0 t1
  · exact S_X11_set_0_t43 hid hG t0 t1
theorem c_beats {l : Launch} {D : va_G} {ids : List Nat} {ad : Nat → Nat} {ca : Nat → ClassId} {σ : HS} {x1 : Int32} (hid : ∀ i, i < 277 → i ∈ ids) (hG : GIc σ) (hT : TX σ) : Ki l D ids ad ca yX11_beats cX11_beats 2 .int 6 149 [.ref (ad 0), .int x1] σ (fun r σ1 => (GIc σ1) ∧ (ony ([9, 10, 11, 12, 56, 57, 58, 59] ++ ringN 160) σ σ1)) := by
  rcases hT with ⟨t0, t1⟩ | ⟨t0, t1⟩
  · exact S_X11_beats_0_t30 hid hG t0 t1
  · exact S_X11_beats_0_t43 hid hG t0 t1
theorem c_undo {l : Launch} {D : va_G} {ids : List Nat} {ad : Nat → Nat} {ca : Nat → ClassId} {σ : HS} (hid : ∀ i, i < 277 → i ∈ ids) (hG : GIc σ) (hT : TX σ) : Ki l D ids ad ca yX11_undo cX11_undo 1 .boolean 3 102 [.ref (ad 0)] σ (fun r σ1 => (GIc σ1) ∧ (ony [12, 56, 57, 58, 59] σ σ1) ∧ (0 ≤ r.toInt ∧ r.toInt ≤ 1)) := by
  rcases hT with ⟨t0, t1⟩ | ⟨t0, t1⟩
  · exact S_X11_undo_0_t30 hid hG t0 t1
  · exact S_X11_undo_0_t43 hid hG t0 t1
theorem c_closes {l : Launch} {D : va_G} {ids : List Nat} {ad : Nat → Nat} {ca : Nat → ClassId} {σ : HS} {x1 : Int32} {x2 : Int32} (hid : ∀ i, i < 277 → i ∈ ids) (hG : GIc σ) (hT : TX σ) : Ki l D ids ad ca yX11_closes cX11_closes 3 .int 2 47 [.ref (ad 0), .int x1, .int x2] σ (fun r σ1 => (σ1 = σ)) := by
  rcases hT with ⟨t0, t1⟩ | ⟨t0, t1⟩
  · exact S_X11_closes_0_t30 hid hG t0 t1
  · exact S_X11_closes_0_t43 hid hG t0 t1
theorem c_lands {l : Launch} {D : va_G} {ids : List Nat} {ad : Nat → Nat} {ca : Nat → ClassId} {σ : HS} (hid : ∀ i, i < 277 → i ∈ ids) (hG : GIc σ) (hT : TX σ) : Ki l D ids ad ca yX11_lands cX11_lands 1 .int 2 43 [.ref (ad 0)] σ (fun r σ1 => (σ1 = σ)) := by
  rcases hT with ⟨t0, t1⟩ | ⟨t0, t1⟩
  · exact S_X11_lands_0_t30 hid hG t0 t1
  · exact S_X11_lands_0_t43 hid hG t0 t1
theorem c_inHand {l : Launch} {D : va_G} {ids : List Nat} {ad : Nat → Nat} {ca : Nat → ClassId} {σ : HS} {x1 : Int32} (hid : ∀ i, i < 277 → i ∈ ids) (hG : GIc σ) (hT : TX σ) : Ki l D ids ad ca yX11_inHand cX11_inHand 2 .int 7 168 [.ref (ad 0), .int x1] σ (fun r σ1 => (GIc σ1) ∧ (ony [9, 10, 11, 27, 60, 61, 62, 63] σ σ1)) := by
  rcases hT with ⟨t0, t1⟩ | ⟨t0, t1⟩
  · exact S_X11_inHand_0_t30 hid hG t0 t1
  · exact S_X11_inHand_0_t43 hid hG t0 t1
theorem c_clash {l : Launch} {D : va_G} {ids : List Nat} {ad : Nat → Nat} {ca : Nat → ClassId} {σ : HS} (hid : ∀ i, i < 277 → i ∈ ids) (hG : GIc σ) (hT : TX σ) : Ki l D ids ad ca yX11_clash cX11_clash 1 .int 7 168 [.ref (ad 0)] σ (fun r σ1 => (GIc σ1) ∧ (ony [9, 10, 11, 60, 61, 62, 63] σ σ1)) := by
  rcases hT with ⟨t0, t1⟩ | ⟨t0, t1⟩
  · exact S_X11_clash_0_t30 hid hG t0 t1
  · exact S_X11_clash_0_t43 hid hG t0 t1
theorem c_into {l : Launch} {D : va_G} {ids : List Nat} {ad : Nat → Nat} {ca : Nat → ClassId} {σ : HS} {x1 : Int32} {x2 : Int32} (hid : ∀ i, i < 277 → i ∈ ids) (hG : GIc σ) (hT : TX σ) : Ki l D ids ad ca yX11_into cX11_into 6 .int 3 72 [.ref (ad 0), .int x1, .int x2] σ (fun r σ1 => (GIc σ1) ∧ (ony [17, 18, 19, 20, 21] σ σ1)) := by
  rcases hT with ⟨t0, t1⟩ | ⟨t0, t1⟩
  · exact S_X11_into_0_t30 hid hG t0 t1
  · exact S_X11_into_0_t43 hid hG t0 t1
theorem c_joined {l : Launch} {D : va_G} {ids : List Nat} {ad : Nat → Nat} {ca : Nat → ClassId} {σ : HS} {x1 : Int32} {x2 : Int32} {x3 : Int32} (hid : ∀ i, i < 277 → i ∈ ids) (hG : GIc σ) (hT : TX σ) : Ki l D ids ad ca yX11_joined cX11_joined 5 .int 2 60 [.ref (ad 0), .int x1, .int x2, .int x3] σ (fun r σ1 => (GIc σ1) ∧ (ony [29] σ σ1)) := by
  rcases hT with ⟨t0, t1⟩ | ⟨t0, t1⟩
  · exact S_X11_joined_0_t30 hid hG t0 t1
  · exact S_X11_joined_0_t43 hid hG t0 t1
theorem c_turned {l : Launch} {D : va_G} {ids : List Nat} {ad : Nat → Nat} {ca : Nat → ClassId} {σ : HS} {x1 : Int32} {x2 : Int32} (hid : ∀ i, i < 277 → i ∈ ids) (hG : GIc σ) (hT : TX σ) : Ki l D ids ad ca yX11_turned cX11_turned 4 .int 1 25 [.ref (ad 0), .int x1, .int x2] σ (fun r σ1 => (σ1 = σ)) := by
  rcases hT with ⟨t0, t1⟩ | ⟨t0, t1⟩
  · exact S_X11_turned_0_t30 hid hG t0 t1
  · exact S_X11_turned_0_t43 hid hG t0 t1
theorem c_span {l : Launch} {D : va_G} {ids : List Nat} {ad : Nat → Nat} {ca : Nat → ClassId} {σ : HS} {x1 : Int32} (hid : ∀ i, i < 277 → i ∈ ids) (hG : GIc σ) (hT : TX σ) : Ki l D ids ad ca yX11_span cX11_span 2 .int 2 44 [.ref (ad 0), .int x1] σ (fun r σ1 => (σ1 = σ)) := by
  rcases hT with ⟨t0, t1⟩ | ⟨t0, t1⟩
  · exact S_X11_span_0_t30 hid hG t0 t1
  · exact S_X11_span_0_t43 hid hG t0 t1
theorem c_orbits {l : Launch} {D : va_G} {ids : List Nat} {ad : Nat → Nat} {ca : Nat → ClassId} {σ : HS} {x1 : Int32} (hid : ∀ i, i < 277 → i ∈ ids) (hG : GIc σ) (hT : TX σ) : Ki l D ids ad ca yX11_orbits cX11_orbits 4 .int 1 26 [.ref (ad 0), .int x1] σ (fun r σ1 => (σ1 = σ)) := by
  rcases hT with ⟨t0, t1⟩ | ⟨t0, t1⟩
  · exact S_X11_orbits_0_t30 hid hG t0 t1
  · exact S_X11_orbits_0_t43 hid hG t0 t1
theorem c_swaps {l : Launch} {D : va_G} {ids : List Nat} {ad : Nat → Nat} {ca : Nat → ClassId} {σ : HS} {x1 : Int32} (hid : ∀ i, i < 277 → i ∈ ids) (hG : GIc σ) (hT : TX σ) : Ki l D ids ad ca yX11_swaps cX11_swaps 2 .int 2 44 [.ref (ad 0), .int x1] σ (fun r σ1 => (σ1 = σ)) := by
  rcases hT with ⟨t0, t1⟩ | ⟨t0, t1⟩
  · exact S_X11_swaps_0_t30 hid hG t0 t1
  · exact S_X11_swaps_0_t43 hid hG t0 t1
theorem c_room {l : Launch} {D : va_G} {ids : List Nat} {ad : Nat → Nat} {ca : Nat → ClassId} {σ : HS} {x1 : Int32} (hid : ∀ i, i < 277 → i ∈ ids) (hG : GIc σ) (hT : TX σ) : Ki l D ids ad ca yX11_room cX11_room 3 .int 7 168 [.ref (ad 0), .int x1] σ (fun r σ1 => (GIc σ1) ∧ (ony [9, 10, 11, 60, 61, 62, 63] σ σ1)) := by
  rcases hT with ⟨t0, t1⟩ | ⟨t0, t1⟩
  · exact S_X11_room_0_t30 hid hG t0 t1
  · exact S_X11_room_0_t43 hid hG t0 t1
theorem c_handover {l : Launch} {D : va_G} {ids : List Nat} {ad : Nat → Nat} {ca : Nat → ClassId} {σ : HS} (hid : ∀ i, i < 277 → i ∈ ids) (hG : GIc σ) (hT : TX σ) : Ki l D ids ad ca yX11_handover cX11_handover 4 .int 6 149 [.ref (ad 0)] σ (fun r σ1 => (GIc σ1) ∧ (ony [9, 10, 11, 60, 61, 62, 63] σ σ1)) := by
  rcases hT with ⟨t0, t1⟩ | ⟨t0, t1⟩
  · exact S_X11_handover_0_t30 hid hG t0 t1
  · exact S_X11_handover_0_t43 hid hG t0 t1
theorem c_limit {l : Launch} {D : va_G} {ids : List Nat} {ad : Nat → Nat} {ca : Nat → ClassId} {σ : HS} {x1 : Int32} (hid : ∀ i, i < 277 → i ∈ ids) (hG : GIc σ) (hT : TX σ) : Ki l D ids ad ca yX11_limit cX11_limit 3 .int 6 149 [.ref (ad 0), .int x1] σ (fun r σ1 => (GIc σ1) ∧ (ony [9, 10, 11, 60, 61, 62, 63] σ σ1)) := by
  rcases hT with ⟨t0, t1⟩ | ⟨t0, t1⟩
  · exact S_X11_limit_0_t30 hid hG t0 t1
  · exact S_X11_limit_0_t43 hid hG t0 t1
theorem c_busiest {l : Launch} {D : va_G} {ids : List Nat} {ad : Nat → Nat} {ca : Nat → ClassId} {σ : HS} {x1 : Int32} {x2 : Int32} (hid : ∀ i, i < 277 → i ∈ ids) (hG : GIc σ) (hT : TX σ) : Ki l D ids ad ca yX11_busiest cX11_busiest 5 .int 7 168 [.ref (ad 0), .int x1, .int x2] σ (fun r σ1 => (GIc σ1) ∧ (ony [9, 10, 11, 27, 28, 60, 61, 62, 63] σ σ1)) := by
  rcases hT with ⟨t0, t1⟩ | ⟨t0, t1⟩
  · exact S_X11_busiest_0_t30 hid hG t0 t1
  · exact S_X11_busiest_0_t43 hid hG t0 t1
theorem c_load {l : Launch} {D : va_G} {ids : List Nat} {ad : Nat → Nat} {ca : Nat → ClassId} {σ : HS} {x1 : Int32} (hid : ∀ i, i < 277 → i ∈ ids) (hG : GIc σ) (hT : TX σ) : Ki l D ids ad ca yX11_load cX11_load 4 .int 7 168 [.ref (ad 0), .int x1] σ (fun r σ1 => (GIc σ1) ∧ (ony [9, 10, 11, 27, 60, 61, 62, 63] σ σ1)) := by
  rcases hT with ⟨t0, t1⟩ | ⟨t0, t1⟩
  · exact S_X11_load_0_t30 hid hG t0 t1
  · exact S_X11_load_0_t43 hid hG t0 t1
theorem c_gap {l : Launch} {D : va_G} {ids : List Nat} {ad : Nat → Nat} {ca : Nat → ClassId} {σ : HS} (hid : ∀ i, i < 277 → i ∈ ids) (hG : GIc σ) (hT : TX σ) : Ki l D ids ad ca yX11_gap cX11_gap 2 .int 6 146 [.ref (ad 0)] σ (fun r σ1 => (GIc σ1) ∧ (ony [9, 10, 11, 60, 61, 62, 63] σ σ1)) := by
  rcases hT with ⟨t0, t1⟩ | ⟨t0, t1⟩
  · exact S_X11_gap_0_t30 hid hG t0 t1
  · exact S_X11_gap_0_t43 hid hG t0 t1
theorem c_order {l : Launch} {D : va_G} {ids : List Nat} {ad : Nat → Nat} {ca : Nat → ClassId} {σ : HS} {x1 : Int32} (hid : ∀ i, i < 277 → i ∈ ids) (hG : GIc σ) (hT : TX σ) : Ki l D ids ad ca yX11_order cX11_order 5 .int 1 21 [.ref (ad 0), .int x1] σ (fun r σ1 => (σ1 = σ)) := by
  rcases hT with ⟨t0, t1⟩ | ⟨t0, t1⟩
  · exact S_X11_order_0_t30 hid hG t0 t1
  · exact S_X11_order_0_t43 hid hG t0 t1
theorem c_ways {l : Launch} {D : va_G} {ids : List Nat} {ad : Nat → Nat} {ca : Nat → ClassId} {σ : HS} {x1 : Int32} {x2 : Int32} {x3 : Int32} {x4 : Int32} (hid : ∀ i, i < 277 → i ∈ ids) (hG : GIc σ) (hT : TX σ) : Ki l D ids ad ca yX11_ways cX11_ways 5 .int 9 253 [.ref (ad 0), .int x1, .int x2, .int x3, .int x4] σ (fun r σ1 => (GIc σ1) ∧ (ony [22, 23, 24] σ σ1)) := by
  rcases hT with ⟨t0, t1⟩ | ⟨t0, t1⟩
  · exact S_X11_ways_0_t30 hid hG t0 t1
  · exact S_X11_ways_0_t43 hid hG t0 t1
theorem c_light {l : Launch} {D : va_G} {ids : List Nat} {ad : Nat → Nat} {ca : Nat → ClassId} {σ : HS} {x1 : Int32} {x2 : Int32} (hid : ∀ i, i < 277 → i ∈ ids) (hG : GIc σ) (hT : TX σ) : Ki l D ids ad ca yX11_light cX11_light 6 .int 6 149 [.ref (ad 0), .int x1, .int x2] σ (fun r σ1 => (GIc σ1) ∧ (ony [9, 10, 11, 60, 61, 62, 63] σ σ1)) := by
  rcases hT with ⟨t0, t1⟩ | ⟨t0, t1⟩
  · exact S_X11_light_0_t30 hid hG t0 t1
  · exact S_X11_light_0_t43 hid hG t0 t1
theorem c_rule {l : Launch} {D : va_G} {ids : List Nat} {ad : Nat → Nat} {ca : Nat → ClassId} {σ : HS} {x1 : Int32} (hid : ∀ i, i < 277 → i ∈ ids) (hG : GIc σ) (hT : TX σ) : Ki l D ids ad ca yX11_rule cX11_rule 4 .int 6 146 [.ref (ad 0), .int x1] σ (fun r σ1 => (GIc σ1) ∧ (ony [9, 10, 11, 60, 61, 62, 63] σ σ1)) := by
  rcases hT with ⟨t0, t1⟩ | ⟨t0, t1⟩
  · exact S_X11_rule_0_t30 hid hG t0 t1
  · exact S_X11_rule_0_t43 hid hG t0 t1
theorem c_down {l : Launch} {D : va_G} {ids : List Nat} {ad : Nat → Nat} {ca : Nat → ClassId} {σ : HS} (hid : ∀ i, i < 277 → i ∈ ids) (hG : GIc σ) (hT : TX σ) : Ki l D ids ad ca yX11_down cX11_down 2 .int 6 149 [.ref (ad 0)] σ (fun r σ1 => (GIc σ1) ∧ (ony [9, 10, 11, 60, 61, 62, 63] σ σ1)) := by
  rcases hT with ⟨t0, t1⟩ | ⟨t0, t1⟩
  · exact S_X11_down_0_t30 hid hG t0 t1
  · exact S_X11_down_0_t43 hid hG t0 t1
theorem c_then {l : Launch} {D : va_G} {ids : List Nat} {ad : Nat → Nat} {ca : Nat → ClassId} {σ : HS} {x1 : Int32} {x2 : Int32} (hid : ∀ i, i < 277 → i ∈ ids) (hG : GIc σ) (hT : TX σ) : Ki l D ids ad ca yX11_then cX11_then 3 .int 6 149 [.ref (ad 0), .int x1, .int x2] σ (fun r σ1 => (GIc σ1) ∧ (ony [9, 10, 11, 60, 61, 62, 63] σ σ1)) := by
  rcases hT with ⟨t0, t1⟩ | ⟨t0, t1⟩
  · exact S_X11_then_0_t30 hid hG t0 t1
  · exact S_X11_then_0_t43 hid hG t0 t1
theorem c_year {l : Launch} {D : va_G} {ids : List Nat} {ad : Nat → Nat} {ca : Nat → ClassId} {σ : HS} {x1 : Int32} {x2 : Int32} (hid : ∀ i, i < 277 → i ∈ ids) (hG : GIc σ) (hT : TX σ) : Ki l D ids ad ca yX11_year cX11_year 5 .int 6 149 [.ref (ad 0), .int x1, .int x2] σ (fun r σ1 => (GIc σ1) ∧ (ony [9, 10, 11, 60, 61, 62, 63] σ σ1)) := by
  rcases hT with ⟨t0, t1⟩ | ⟨t0, t1⟩
  · exact S_X11_year_0_t30 hid hG t0 t1
  · exact S_X11_year_0_t43 hid hG t0 t1
theorem c_tell {l : Launch} {D : va_G} {ids : List Nat} {ad : Nat → Nat} {ca : Nat → ClassId} {σ : HS} {x1 : Int32} {x2 : Int32} (hid : ∀ i, i < 277 → i ∈ ids) (hG : GIc σ) (hT : TX σ) (hx2 : 0 ≤ x2.toInt ∧ x2.toInt ≤ 1) : Ki l D ids ad ca yX11_tell cX11_tell 3 .int 1 22 [.ref (ad 0), .int x1, .int x2] σ (fun r σ1 => (GIc σ1) ∧ (ony [14, 15, 16] σ σ1)) := by
  rcases hT with ⟨t0, t1⟩ | ⟨t0, t1⟩
  · exact S_X11_tell_0_t30 hid hG t0 t1 hx2
  · exact S_X11_tell_0_t43 hid hG t0 t1 hx2
theorem c_forget {l : Launch} {D : va_G} {ids : List Nat} {ad : Nat → Nat} {ca : Nat → ClassId} {σ : HS} (hid : ∀ i, i < 277 → i ∈ ids) (hG : GIc σ) (hT : TX σ) : Ki l D ids ad ca yX11_forget cX11_forget 2 .int 0 0 [.ref (ad 0)] σ (fun r σ1 => (GIc σ1) ∧ (ony [14] σ σ1)) := by
  rcases hT with ⟨t0, t1⟩ | ⟨t0, t1⟩
  · exact S_X11_forget_0_t30 hid hG t0 t1
  · exact S_X11_forget_0_t43 hid hG t0 t1
theorem c_glitters {l : Launch} {D : va_G} {ids : List Nat} {ad : Nat → Nat} {ca : Nat → ClassId} {σ : HS} {x1 : Int32} {x2 : Int32} (hid : ∀ i, i < 277 → i ∈ ids) (hG : GIc σ) (hT : TX σ) : Ki l D ids ad ca yX11_glitters cX11_glitters 4 .int 7 168 [.ref (ad 0), .int x1, .int x2] σ (fun r σ1 => (GIc σ1) ∧ (ony [9, 10, 11, 27, 60, 61, 62, 63] σ σ1)) := by
  rcases hT with ⟨t0, t1⟩ | ⟨t0, t1⟩
  · exact S_X11_glitters_0_t30 hid hG t0 t1
  · exact S_X11_glitters_0_t43 hid hG t0 t1
theorem c_watch {l : Launch} {D : va_G} {ids : List Nat} {ad : Nat → Nat} {ca : Nat → ClassId} {σ : HS} {x1 : Int32} (hid : ∀ i, i < 277 → i ∈ ids) (hG : GIc σ) (hT : TX σ) : Ki l D ids ad ca yX11_watch cX11_watch 8 .int 7 168 [.ref (ad 0), .int x1] σ (fun r σ1 => (GIc σ1) ∧ (ony [9, 10, 11, 27, 60, 61, 62, 63] σ σ1)) := by
  rcases hT with ⟨t0, t1⟩ | ⟨t0, t1⟩
  · exact S_X11_watch_0_t30 hid hG t0 t1
  · exact S_X11_watch_0_t43 hid hG t0 t1
theorem c_count {l : Launch} {D : va_G} {ids : List Nat} {ad : Nat → Nat} {ca : Nat → ClassId} {σ : HS} {x1 : Int32} (hid : ∀ i, i < 277 → i ∈ ids) (hG : GIc σ) (hT : TX σ) : Ki l D ids ad ca yX11_count cX11_count 2 .int 2 43 [.ref (ad 0), .int x1] σ (fun r σ1 => (σ1 = σ)) := by
  rcases hT with ⟨t0, t1⟩ | ⟨t0, t1⟩
  · exact S_X11_count_0_t30 hid hG t0 t1
  · exact S_X11_count_0_t43 hid hG t0 t1
theorem c_read {l : Launch} {D : va_G} {ids : List Nat} {ad : Nat → Nat} {ca : Nat → ClassId} {K : (Nat → Nat) × (Nat → Nat)} {σ : HS} (hid : ∀ i, i < 277 → i ∈ ids) (hG : GIc σ) (hT : TX σ) : KiS l D ids ad ca K yX11_read cX11_read 2 .int 27 650 [.ref (ad 0)] σ (fun r σ1 => GIc σ1 ∧ keepM σ σ1 ∧ TX σ1 ∧ (σ1.1 2 1).toInt = 0) := by
  rcases hT with ⟨t0, t1⟩ | ⟨t0, t1⟩
  · exact S_X11_read_0_t30 hid hG t0 t1
  · exact S_X11_read_0_t43 hid hG t0 t1
