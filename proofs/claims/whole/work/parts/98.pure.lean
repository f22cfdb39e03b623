theorem law_pure_ok : law_pure := sorry
