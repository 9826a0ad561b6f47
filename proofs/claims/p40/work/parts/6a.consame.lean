/-! contracts: same -/
