theorem mr_3_18_42 : ∀ j, 18 ≤ j → j < 42 → mr 3 j = 0 := fun j h1 h2 => iv (f := mr 3) (lo := 18) (n := 24) (by decide +kernel) j h1 h2
theorem pcl_3_18_42 : ∀ j, 18 ≤ j → j < 42 → pcl 3 j = 0 := fun j h1 h2 => iv (f := pcl 3) (lo := 18) (n := 24) (by decide +kernel) j h1 h2
theorem mr_3_60_61 : ∀ j, 60 ≤ j → j < 61 → mr 3 j = 13 := fun j h1 h2 => iv (f := mr 3) (lo := 60) (n := 1) (by decide +kernel) j h1 h2
theorem pcl_3_60_61 : ∀ j, 60 ≤ j → j < 61 → pcl 3 j = 0 := fun j h1 h2 => iv (f := pcl 3) (lo := 60) (n := 1) (by decide +kernel) j h1 h2
theorem pns_3_0_61_21 : ∀ j, 0 ≤ j → j < 61 → pcl 3 j ∉ ([21] : List Nat) := fun j h1 h2 => ivp (P := fun j => pcl 3 j ∉ ([21] : List Nat)) (lo := 0) (n := 61) (by decide +kernel) j h1 h2
