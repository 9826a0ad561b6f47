/-! contracts: act -/
