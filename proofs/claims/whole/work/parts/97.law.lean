theorem pz_law : pz_Law := sorry
